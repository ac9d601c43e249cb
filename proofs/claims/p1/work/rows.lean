section
-- ===== PART A: goes FIRST, ahead of the names: the tables' words, and 'selects' of the private methods out of them =====
/-- a private method of a class that the tables say can be made, by its rows of tables_1 -/
def lw_okq (q : MethodName × Nat) : Prop := (q.1.cls ≠ "java/lang/invoke/MethodHandle" ∧ q.1.cls ≠ "java/lang/invoke/VarHandle") ∧ Cond.instantiable q.1.cls q.2 ∈ tables_1 ∧ Cond.privateMethod q.1 ∈ tables_1 ∧ Cond.instanceMethod q.1 ∈ tables_1
theorem lw_p0 : lw_okq (⟨"BatchTransfer", "mayAddFile", "()Z"⟩, 9) := ⟨⟨by decide +kernel, by decide +kernel⟩, List.mem_of_getElem? (i := 18) (by decide +kernel), List.mem_of_getElem? (i := 232) (by decide +kernel), List.mem_of_getElem? (i := 233) (by decide +kernel)⟩
theorem lw_p1 : lw_okq (⟨"BatchTransfer", "isOn", "()Z"⟩, 9) := ⟨⟨by decide +kernel, by decide +kernel⟩, List.mem_of_getElem? (i := 18) (by decide +kernel), List.mem_of_getElem? (i := 236) (by decide +kernel), List.mem_of_getElem? (i := 237) (by decide +kernel)⟩
theorem lw_p2 : lw_okq (⟨"BatchTransfer$Sender", "goIntoFile", "()V"⟩, 10) := ⟨⟨by decide +kernel, by decide +kernel⟩, List.mem_of_getElem? (i := 58) (by decide +kernel), List.mem_of_getElem? (i := 285) (by decide +kernel), List.mem_of_getElem? (i := 286) (by decide +kernel)⟩
theorem lw_p3 : lw_okq (⟨"BatchTransfer$Receiver", "expectHead", "()V"⟩, 9) := ⟨⟨by decide +kernel, by decide +kernel⟩, List.mem_of_getElem? (i := 153) (by decide +kernel), List.mem_of_getElem? (i := 304) (by decide +kernel), List.mem_of_getElem? (i := 305) (by decide +kernel)⟩
theorem lw_p4 : lw_okq (⟨"BatchTransfer$Receiver", "expectBlocks", "()V"⟩, 9) := ⟨⟨by decide +kernel, by decide +kernel⟩, List.mem_of_getElem? (i := 153) (by decide +kernel), List.mem_of_getElem? (i := 309) (by decide +kernel), List.mem_of_getElem? (i := 310) (by decide +kernel)⟩
theorem lw_p5 : lw_okq (⟨"BatchTransfer", "spoilWire", "()V"⟩, 9) := ⟨⟨by decide +kernel, by decide +kernel⟩, List.mem_of_getElem? (i := 18) (by decide +kernel), List.mem_of_getElem? (i := 328) (by decide +kernel), List.mem_of_getElem? (i := 329) (by decide +kernel)⟩
theorem lw_p6 : lw_okq (⟨"BatchTransfer$Wire", "sum", "(I)I"⟩, 2) := ⟨⟨by decide +kernel, by decide +kernel⟩, List.mem_of_getElem? (i := 42) (by decide +kernel), List.mem_of_getElem? (i := 372) (by decide +kernel), List.mem_of_getElem? (i := 373) (by decide +kernel)⟩
theorem lw_p7 : lw_okq (⟨"BatchTransfer$Wire", "crc", "(I)I"⟩, 2) := ⟨⟨by decide +kernel, by decide +kernel⟩, List.mem_of_getElem? (i := 42) (by decide +kernel), List.mem_of_getElem? (i := 376) (by decide +kernel), List.mem_of_getElem? (i := 377) (by decide +kernel)⟩
theorem lw_p8 : lw_okq (⟨"BatchTransfer$Receiver", "answerBlock", "(LBatchTransfer$Wire;)V"⟩, 9) := ⟨⟨by decide +kernel, by decide +kernel⟩, List.mem_of_getElem? (i := 153) (by decide +kernel), List.mem_of_getElem? (i := 381) (by decide +kernel), List.mem_of_getElem? (i := 382) (by decide +kernel)⟩
theorem lw_p9 : lw_okq (⟨"BatchTransfer$Receiver", "takeHead", "(LBatchTransfer$Wire;)V"⟩, 9) := ⟨⟨by decide +kernel, by decide +kernel⟩, List.mem_of_getElem? (i := 153) (by decide +kernel), List.mem_of_getElem? (i := 386) (by decide +kernel), List.mem_of_getElem? (i := 387) (by decide +kernel)⟩
theorem lw_p10 : lw_okq (⟨"BatchTransfer$Receiver", "takeData", "(LBatchTransfer$Wire;)V"⟩, 9) := ⟨⟨by decide +kernel, by decide +kernel⟩, List.mem_of_getElem? (i := 153) (by decide +kernel), List.mem_of_getElem? (i := 397) (by decide +kernel), List.mem_of_getElem? (i := 398) (by decide +kernel)⟩
theorem lw_p11 : lw_okq (⟨"BatchTransfer$Receiver", "acknowledge", "(LBatchTransfer$Wire;)V"⟩, 9) := ⟨⟨by decide +kernel, by decide +kernel⟩, List.mem_of_getElem? (i := 153) (by decide +kernel), List.mem_of_getElem? (i := 403) (by decide +kernel), List.mem_of_getElem? (i := 404) (by decide +kernel)⟩
theorem lw_p12 : lw_okq (⟨"BatchTransfer$Receiver", "answerEnd", "(LBatchTransfer$Wire;)V"⟩, 9) := ⟨⟨by decide +kernel, by decide +kernel⟩, List.mem_of_getElem? (i := 153) (by decide +kernel), List.mem_of_getElem? (i := 416) (by decide +kernel), List.mem_of_getElem? (i := 417) (by decide +kernel)⟩
theorem lw_p13 : lw_okq (⟨"BatchTransfer$Receiver", "closeFile", "()V"⟩, 9) := ⟨⟨by decide +kernel, by decide +kernel⟩, List.mem_of_getElem? (i := 153) (by decide +kernel), List.mem_of_getElem? (i := 420) (by decide +kernel), List.mem_of_getElem? (i := 421) (by decide +kernel)⟩
theorem lw_p14 : lw_okq (⟨"BatchTransfer$Sender", "putUnit", "(LBatchTransfer$Wire;)V"⟩, 10) := ⟨⟨by decide +kernel, by decide +kernel⟩, List.mem_of_getElem? (i := 58) (by decide +kernel), List.mem_of_getElem? (i := 441) (by decide +kernel), List.mem_of_getElem? (i := 442) (by decide +kernel)⟩
theorem lw_p15 : lw_okq (⟨"BatchTransfer$Sender", "putHead", "(LBatchTransfer$Wire;)V"⟩, 10) := ⟨⟨by decide +kernel, by decide +kernel⟩, List.mem_of_getElem? (i := 58) (by decide +kernel), List.mem_of_getElem? (i := 446) (by decide +kernel), List.mem_of_getElem? (i := 447) (by decide +kernel)⟩
def lw_privs_1 : List (MethodName × Nat) := [(⟨"BatchTransfer", "mayAddFile", "()Z"⟩, 9), (⟨"BatchTransfer", "isOn", "()Z"⟩, 9), (⟨"BatchTransfer$Sender", "goIntoFile", "()V"⟩, 10), (⟨"BatchTransfer$Receiver", "expectHead", "()V"⟩, 9), (⟨"BatchTransfer$Receiver", "expectBlocks", "()V"⟩, 9), (⟨"BatchTransfer", "spoilWire", "()V"⟩, 9), (⟨"BatchTransfer$Wire", "sum", "(I)I"⟩, 2), (⟨"BatchTransfer$Wire", "crc", "(I)I"⟩, 2), (⟨"BatchTransfer$Receiver", "answerBlock", "(LBatchTransfer$Wire;)V"⟩, 9), (⟨"BatchTransfer$Receiver", "takeHead", "(LBatchTransfer$Wire;)V"⟩, 9), (⟨"BatchTransfer$Receiver", "takeData", "(LBatchTransfer$Wire;)V"⟩, 9), (⟨"BatchTransfer$Receiver", "acknowledge", "(LBatchTransfer$Wire;)V"⟩, 9), (⟨"BatchTransfer$Receiver", "answerEnd", "(LBatchTransfer$Wire;)V"⟩, 9), (⟨"BatchTransfer$Receiver", "closeFile", "()V"⟩, 9), (⟨"BatchTransfer$Sender", "putUnit", "(LBatchTransfer$Wire;)V"⟩, 10), (⟨"BatchTransfer$Sender", "putHead", "(LBatchTransfer$Wire;)V"⟩, 10)]
theorem lw_r1 : ∀ q ∈ lw_privs_1, lw_okq q := List.forall_mem_cons.mpr ⟨lw_p0, List.forall_mem_cons.mpr ⟨lw_p1, List.forall_mem_cons.mpr ⟨lw_p2, List.forall_mem_cons.mpr ⟨lw_p3, List.forall_mem_cons.mpr ⟨lw_p4, List.forall_mem_cons.mpr ⟨lw_p5, List.forall_mem_cons.mpr ⟨lw_p6, List.forall_mem_cons.mpr ⟨lw_p7, List.forall_mem_cons.mpr ⟨lw_p8, List.forall_mem_cons.mpr ⟨lw_p9, List.forall_mem_cons.mpr ⟨lw_p10, List.forall_mem_cons.mpr ⟨lw_p11, List.forall_mem_cons.mpr ⟨lw_p12, List.forall_mem_cons.mpr ⟨lw_p13, List.forall_mem_cons.mpr ⟨lw_p14, List.forall_mem_cons.mpr ⟨lw_p15, fun _ h => absurd h List.not_mem_nil⟩⟩⟩⟩⟩⟩⟩⟩⟩⟩⟩⟩⟩⟩⟩⟩
theorem lw_p16 : lw_okq (⟨"BatchTransfer$Sender", "putBlock", "(LBatchTransfer$Wire;)V"⟩, 10) := ⟨⟨by decide +kernel, by decide +kernel⟩, List.mem_of_getElem? (i := 58) (by decide +kernel), List.mem_of_getElem? (i := 462) (by decide +kernel), List.mem_of_getElem? (i := 463) (by decide +kernel)⟩
theorem lw_p17 : lw_okq (⟨"BatchTransfer$Sender", "blockLength", "()I"⟩, 10) := ⟨⟨by decide +kernel, by decide +kernel⟩, List.mem_of_getElem? (i := 58) (by decide +kernel), List.mem_of_getElem? (i := 466) (by decide +kernel), List.mem_of_getElem? (i := 467) (by decide +kernel)⟩
theorem lw_p18 : lw_okq (⟨"BatchTransfer$Sender", "goToNextUnit", "()V"⟩, 10) := ⟨⟨by decide +kernel, by decide +kernel⟩, List.mem_of_getElem? (i := 58) (by decide +kernel), List.mem_of_getElem? (i := 474) (by decide +kernel), List.mem_of_getElem? (i := 475) (by decide +kernel)⟩
theorem lw_p19 : lw_okq (⟨"BatchTransfer$Sender", "goBehindBlock", "()V"⟩, 10) := ⟨⟨by decide +kernel, by decide +kernel⟩, List.mem_of_getElem? (i := 58) (by decide +kernel), List.mem_of_getElem? (i := 478) (by decide +kernel), List.mem_of_getElem? (i := 479) (by decide +kernel)⟩
theorem lw_p20 : lw_okq (⟨"BatchTransfer$Sender", "goBehindFile", "()V"⟩, 10) := ⟨⟨by decide +kernel, by decide +kernel⟩, List.mem_of_getElem? (i := 58) (by decide +kernel), List.mem_of_getElem? (i := 482) (by decide +kernel), List.mem_of_getElem? (i := 483) (by decide +kernel)⟩
theorem lw_p21 : lw_okq (⟨"java/lang/Throwable", "fillInStackTrace", "(I)Ljava/lang/Throwable;"⟩, 6) := ⟨⟨by decide +kernel, by decide +kernel⟩, List.mem_of_getElem? (i := 558) (by decide +kernel), List.mem_of_getElem? (i := 556) (by decide +kernel), List.mem_of_getElem? (i := 557) (by decide +kernel)⟩
theorem lw_p22 : lw_okq (⟨"BatchTransferModel", "layOut", "()V"⟩, 39) := ⟨⟨by decide +kernel, by decide +kernel⟩, List.mem_of_getElem? (i := 590) (by decide +kernel), List.mem_of_getElem? (i := 744) (by decide +kernel), List.mem_of_getElem? (i := 745) (by decide +kernel)⟩
theorem lw_p23 : lw_okq (⟨"BatchTransferModel", "unitOf", "(IIIII)V"⟩, 39) := ⟨⟨by decide +kernel, by decide +kernel⟩, List.mem_of_getElem? (i := 590) (by decide +kernel), List.mem_of_getElem? (i := 748) (by decide +kernel), List.mem_of_getElem? (i := 749) (by decide +kernel)⟩
theorem lw_p24 : lw_okq (⟨"BatchTransferModel", "ask", "()I"⟩, 39) := ⟨⟨by decide +kernel, by decide +kernel⟩, List.mem_of_getElem? (i := 590) (by decide +kernel), List.mem_of_getElem? (i := 752) (by decide +kernel), List.mem_of_getElem? (i := 753) (by decide +kernel)⟩
theorem lw_p25 : lw_okq (⟨"BatchTransferModel", "byteOn", "(I)V"⟩, 39) := ⟨⟨by decide +kernel, by decide +kernel⟩, List.mem_of_getElem? (i := 590) (by decide +kernel), List.mem_of_getElem? (i := 756) (by decide +kernel), List.mem_of_getElem? (i := 757) (by decide +kernel)⟩
theorem lw_p26 : lw_okq (⟨"BatchTransferModel", "senderGets", "(Z)V"⟩, 39) := ⟨⟨by decide +kernel, by decide +kernel⟩, List.mem_of_getElem? (i := 590) (by decide +kernel), List.mem_of_getElem? (i := 768) (by decide +kernel), List.mem_of_getElem? (i := 769) (by decide +kernel)⟩
theorem lw_p27 : lw_okq (⟨"BatchTransferModel", "senderMiss", "(Z)V"⟩, 39) := ⟨⟨by decide +kernel, by decide +kernel⟩, List.mem_of_getElem? (i := 590) (by decide +kernel), List.mem_of_getElem? (i := 772) (by decide +kernel), List.mem_of_getElem? (i := 773) (by decide +kernel)⟩
theorem lw_p28 : lw_okq (⟨"BatchTransferModel", "sendUnit", "()V"⟩, 39) := ⟨⟨by decide +kernel, by decide +kernel⟩, List.mem_of_getElem? (i := 590) (by decide +kernel), List.mem_of_getElem? (i := 776) (by decide +kernel), List.mem_of_getElem? (i := 777) (by decide +kernel)⟩
theorem lw_p29 : lw_okq (⟨"BatchTransferModel", "check", "(II)I"⟩, 39) := ⟨⟨by decide +kernel, by decide +kernel⟩, List.mem_of_getElem? (i := 590) (by decide +kernel), List.mem_of_getElem? (i := 780) (by decide +kernel), List.mem_of_getElem? (i := 781) (by decide +kernel)⟩
theorem lw_p30 : lw_okq (⟨"BatchTransferModel", "receiverGets", "(Z)V"⟩, 39) := ⟨⟨by decide +kernel, by decide +kernel⟩, List.mem_of_getElem? (i := 590) (by decide +kernel), List.mem_of_getElem? (i := 784) (by decide +kernel), List.mem_of_getElem? (i := 785) (by decide +kernel)⟩
theorem lw_p31 : lw_okq (⟨"BatchTransferModel", "fileEnds", "()V"⟩, 39) := ⟨⟨by decide +kernel, by decide +kernel⟩, List.mem_of_getElem? (i := 590) (by decide +kernel), List.mem_of_getElem? (i := 788) (by decide +kernel), List.mem_of_getElem? (i := 789) (by decide +kernel)⟩
def lw_privs_2 : List (MethodName × Nat) := [(⟨"BatchTransfer$Sender", "putBlock", "(LBatchTransfer$Wire;)V"⟩, 10), (⟨"BatchTransfer$Sender", "blockLength", "()I"⟩, 10), (⟨"BatchTransfer$Sender", "goToNextUnit", "()V"⟩, 10), (⟨"BatchTransfer$Sender", "goBehindBlock", "()V"⟩, 10), (⟨"BatchTransfer$Sender", "goBehindFile", "()V"⟩, 10), (⟨"java/lang/Throwable", "fillInStackTrace", "(I)Ljava/lang/Throwable;"⟩, 6), (⟨"BatchTransferModel", "layOut", "()V"⟩, 39), (⟨"BatchTransferModel", "unitOf", "(IIIII)V"⟩, 39), (⟨"BatchTransferModel", "ask", "()I"⟩, 39), (⟨"BatchTransferModel", "byteOn", "(I)V"⟩, 39), (⟨"BatchTransferModel", "senderGets", "(Z)V"⟩, 39), (⟨"BatchTransferModel", "senderMiss", "(Z)V"⟩, 39), (⟨"BatchTransferModel", "sendUnit", "()V"⟩, 39), (⟨"BatchTransferModel", "check", "(II)I"⟩, 39), (⟨"BatchTransferModel", "receiverGets", "(Z)V"⟩, 39), (⟨"BatchTransferModel", "fileEnds", "()V"⟩, 39)]
theorem lw_r2 : ∀ q ∈ lw_privs_2, lw_okq q := List.forall_mem_cons.mpr ⟨lw_p16, List.forall_mem_cons.mpr ⟨lw_p17, List.forall_mem_cons.mpr ⟨lw_p18, List.forall_mem_cons.mpr ⟨lw_p19, List.forall_mem_cons.mpr ⟨lw_p20, List.forall_mem_cons.mpr ⟨lw_p21, List.forall_mem_cons.mpr ⟨lw_p22, List.forall_mem_cons.mpr ⟨lw_p23, List.forall_mem_cons.mpr ⟨lw_p24, List.forall_mem_cons.mpr ⟨lw_p25, List.forall_mem_cons.mpr ⟨lw_p26, List.forall_mem_cons.mpr ⟨lw_p27, List.forall_mem_cons.mpr ⟨lw_p28, List.forall_mem_cons.mpr ⟨lw_p29, List.forall_mem_cons.mpr ⟨lw_p30, List.forall_mem_cons.mpr ⟨lw_p31, fun _ h => absurd h List.not_mem_nil⟩⟩⟩⟩⟩⟩⟩⟩⟩⟩⟩⟩⟩⟩⟩⟩
theorem lw_p32 : lw_okq (⟨"BatchTransferModel", "isRight", "()Z"⟩, 39) := ⟨⟨by decide +kernel, by decide +kernel⟩, List.mem_of_getElem? (i := 590) (by decide +kernel), List.mem_of_getElem? (i := 792) (by decide +kernel), List.mem_of_getElem? (i := 793) (by decide +kernel)⟩
theorem lw_p33 : lw_okq (⟨"BatchTransferModel", "receiverMiss", "()V"⟩, 39) := ⟨⟨by decide +kernel, by decide +kernel⟩, List.mem_of_getElem? (i := 590) (by decide +kernel), List.mem_of_getElem? (i := 796) (by decide +kernel), List.mem_of_getElem? (i := 797) (by decide +kernel)⟩
theorem lw_p34 : lw_okq (⟨"BatchTransferModel", "head", "()V"⟩, 39) := ⟨⟨by decide +kernel, by decide +kernel⟩, List.mem_of_getElem? (i := 590) (by decide +kernel), List.mem_of_getElem? (i := 800) (by decide +kernel), List.mem_of_getElem? (i := 801) (by decide +kernel)⟩
theorem lw_p35 : lw_okq (⟨"BatchTransferModel", "keep", "()V"⟩, 39) := ⟨⟨by decide +kernel, by decide +kernel⟩, List.mem_of_getElem? (i := 590) (by decide +kernel), List.mem_of_getElem? (i := 804) (by decide +kernel), List.mem_of_getElem? (i := 805) (by decide +kernel)⟩
def lw_privs_3 : List (MethodName × Nat) := [(⟨"BatchTransferModel", "isRight", "()Z"⟩, 39), (⟨"BatchTransferModel", "receiverMiss", "()V"⟩, 39), (⟨"BatchTransferModel", "head", "()V"⟩, 39), (⟨"BatchTransferModel", "keep", "()V"⟩, 39)]
theorem lw_r3 : ∀ q ∈ lw_privs_3, lw_okq q := List.forall_mem_cons.mpr ⟨lw_p32, List.forall_mem_cons.mpr ⟨lw_p33, List.forall_mem_cons.mpr ⟨lw_p34, List.forall_mem_cons.mpr ⟨lw_p35, fun _ h => absurd h List.not_mem_nil⟩⟩⟩⟩
def lw_privs : List (MethodName × Nat) := lw_privs_1 ++ (lw_privs_2 ++ (lw_privs_3))
def lw_tbl : List Cond := k2_sels lw_privs ++ tables_1
theorem lw_privs_ok : ∀ q ∈ lw_privs, lw_okq q := by
  show ∀ q ∈ lw_privs_1 ++ (lw_privs_2 ++ (lw_privs_3)), lw_okq q
  exact List.forall_mem_append.mpr ⟨lw_r1, List.forall_mem_append.mpr ⟨lw_r2, lw_r3⟩⟩
end
section
/-! ===== BEGIN words of one list among another's, by their places ===== -/
theorem goodIn_r {big : List Cond} (ws : List Cond) (ps : List Nat) (hp : ws = ps.filterMap (fun i => big[i]?)) (h : ws.all goodWord = true) : GoodIn big ws := by
  intro w hw
  have h1 := List.all_eq_true.mp h w hw
  rw [hp] at hw
  obtain ⟨i, -, hi⟩ := List.mem_filterMap.mp hw
  have hm : w ∈ big := by first | exact List.mem_of_getElem? hi | exact List.getElem?_mem hi
  exact ⟨hm, good_of_word h1⟩
theorem goodIn_app {big a b : List Cond} (ha : GoodIn big a) (hb : GoodIn big b) : GoodIn big (a ++ b) := fun w h => (List.mem_append.mp h).elim (ha w) (hb w)
theorem goodIn_ca {big a b : List Cond} {c : Cond} (ha : GoodIn big (c :: a)) (hb : GoodIn big b) : GoodIn big (c :: (a ++ b)) := fun w h => (List.mem_cons.mp h).elim (fun e => ha w (List.mem_cons.mpr (Or.inl e))) (fun h => (List.mem_append.mp h).elim (fun h => ha w (List.mem_cons.mpr (Or.inr h))) (hb w))
theorem goodIn_sub {big ws : List Cond} (hm : ∀ w ∈ ws, w ∈ big) (h : ws.all goodWord = true) : GoodIn big ws := fun w hw => ⟨hm w hw, good_of_word (List.all_eq_true.mp h w hw)⟩
/-! ===== END ===== -/

/-! ===== BEGIN exceptions that leave a method, and their catching by the caller (launches without stack traces) ===== -/
section VXA
/-! The laws vx_back, vx_callV, vx_callS, vx_callSW, vx_throw0, vx_throwS follow proofs of the library, with one case more: JvmDerived/Free/Laws.lean (Back.of_free), Shelf42/LK1.lean (callV, callS), Shelf/KitTraced.lean (throwNew0V, throwNewS). -/
/-- where a method has thrown q: the class by its name, the cell, what was written, the world -/
def vx_T (XC : String → State → State → Prop) (st : State) (q : Addr) (t : State) (mc ms : Nat) (free : Addr → Prop) : Prop :=
  ∃ (E : String) (ce : Cell) (L : List Loc), XC E st t ∧ t.heap[q]? = some ce ∧ ce.vm = .none ∧ st.vm.findClass E = some ce.cls ∧ st.WarmedH t.vm ∧ st.sameButNew ({ t with vm := st.vm } : State) L mc ms ∧ ∀ z ∈ L, free z.base
def vx_Q (Qc : Array Value → State → Outcome → State → Prop) (XC : String → State → State → Prop) (mc ms : Nat) (free : Addr → Prop) : Array Value → State → Outcome → State → Prop := fun a st o t =>
  (Qc a st o t ∧ ∃ L, FrameEnd st o t L mc ms ∧ ∀ q ∈ L, free q.base) ∨ ∃ q, o = .threw q ∧ vx_T XC st q t mc ms free
/-- a callee that returns or throws -/
def vx_Met (l : Launch) (y : MethodName) (ws : List Cond) (rm : Room) (Pc : Array Value → State → Prop) (Qc : Array Value → State → Outcome → State → Prop) (XC : String → State → State → Prop) (mc ms : Nat) (free : Addr → Prop) : Prop :=
  MetFree l y (headSpec ws rm) Pc (fun _ _ _ _ _ => True) (vx_Q Qc XC mc ms free)
def vx_Post (XC : String → State → State → Prop) (mc ms : Nat) (free : Addr → Prop) : Pt → Array Value → Addr → Pt → Prop := fun A a q B =>
  ∃ (g : JFrame) (mk : MethodId) (t : State) (L : List Loc) (E : String) (ce : Cell), B.U.heap = t.heap ∧ B.U.vm = t.vm ∧ XC E (A.U.calling g mk a) t ∧ t.heap[q]? = some ce ∧ ce.vm = .none ∧ A.U.vm.findClass E = some ce.cls ∧ B.locs = A.locs ++ L ∧ (∀ z ∈ L, free z.base) ∧ B.cells = A.cells + mc ∧ B.slots = A.slots + ms
def vx_Back (l : Launch) (R : Room) (p : Program) (e : Env) (below : List Frame) (s : State) (sargs : Array Value) (y : MethodName) (len W9 : Nat)
    (Pre : Pt → Array Value → Prop) (Post : Pt → Array Value → Option Value → Pt → Prop) (PostX : Pt → Array Value → Addr → Pt → Prop) : Prop :=
  ∀ (m : MethodId) (meth : Method) (c : Code) (A : Pt) (g : JFrame) (ig : Instr) (mk : MethodId) (a : Array Value),
    Stand p l e R s m sargs below meth c A.U A.locs A.cells A.slots → g.method = m → g.locals.size = c.maxLocals → decode c.code g.pc = .ok (ig, len) →
    2 * g.monitorRoom + (g.stack.map fun v => v.category).sum ≤ W9 → A.U.methodNamed? y = some mk → Pre A a →
    (∃ (v : Option Value) (B : Pt), Stand p l e R s m sargs below meth c B.U B.locs B.cells B.slots ∧ Post A a v B ∧
      Steps p.tables e below (doInvoke e (A.U.setTop g) [] mk a).1 (B.U.setTop { g with pc := g.pc + len, stack := v.toList ++ g.stack })) ∨
    (∃ (q : Addr) (B : Pt), Stand p l e R s m sargs below meth c B.U B.locs B.cells B.slots ∧ PostX A a q B ∧
      Steps p.tables e below (doInvoke e (A.U.setTop g) [] mk a).1 ((B.U.setTop g).pushFrame (.throwing q)))
section Payer
variable {l : Launch} {R : Room} {p : Program} {e : Env} {below : List Frame} {s : State} {sargs : Array Value} {y : MethodName} {len W9 : Nat}
theorem vx_back {ws : List Cond} {rm : Room} {Pc : Array Value → State → Prop} {Qc : Array Value → State → Outcome → State → Prop} {XC : String → State → State → Prop} {mc ms : Nat} {free : Addr → Prop} {bytes : ByteArray} {maxL : Nat} {ret : Option FieldType}
    (hM : vx_Met l y ws rm Pc Qc XC mc ms free) (hblind : FrameBlind Pc) (hrc : rm.cells = mc) (hrs : rm.slots = ms)
    (hframes : rm.frames + 1 ≤ R.frames) (hlocals : W9 + (maxL + 11) + rm.locals ≤ R.locals)
    (hws : ∀ w ∈ ws, ∀ a' U, s.WarmedH U.vm → w.before a' U = true) (hcode : Cond.code y bytes maxL ret ∈ ws) (hinit : ∀ a' U, s.WarmedH U.vm → (Cond.initialized y.cls).before a' U = true) :
    vx_Back l R p e below s sargs y len W9 (PreOf R mc ms Pc) (PostOf Qc mc ms free) (vx_Post XC mc ms free) := by
  intro m meth c A g ig mk a X hg hsize hdg hW hn hp
  have h1 : (headSpec ws rm).pre.before a A.U = true := atoms_intro fun w hw => hws w hw _ _ X.warmed
  have h2 : (Cond.code y bytes maxL ret).before a A.U = true := hws _ hcode _ _ X.warmed
  have h3 : (Cond.initialized y.cls).before a A.U = true := hinit _ _ X.warmed
  have h4 : A.cells + (headSpec ws rm).room.cells ≤ R.cells := by rw [show (headSpec ws rm).room.cells = mc from hrc]; exact hp.1
  have h5 : A.slots + (headSpec ws rm).room.slots ≤ R.slots := by rw [show (headSpec ws rm).room.slots = ms from hrs]; exact hp.2.1
  have hPc : Pc a (A.U.calling g mk a) := hblind _ _ _ _ hp.2.2
  obtain ⟨U, Ls, c0, s0⟩ := A
  dsimp only [Pt.U, Pt.locs, Pt.cells, Pt.slots] at h1 h2 h3 h4 h5 X hn hPc ⊢
  obtain ⟨methY, cY, hmY, hcY, -, hlY, -, -, -, -⟩ := Cond.code_spec hn h2
  obtain ⟨kY, hkY, -⟩ := className_of_methodNamed hn
  have hinitY : kY.init = .initialized := Cond.initialized_spec (findClass_of_methodNamed hn) hkY h3
  have h : At U g.method c below := by rw [hg]; exact X.here
  have hlocals9 : W9 + (maxL + 11) + (headSpec ws rm).room.locals ≤ R.locals := hlocals
  have happ : (headSpec ws rm).appliesLoose y e.platform (U.calling g mk a) = true :=
    Spec.appliesLoose_calling (g := g) h hdg hn hkY hinitY
      (X.room_calling (g := g) (R' := (headSpec ws rm).room) hsize hmY hcY hframes (by rw [hlY]; omega) h4 h5) h1
  obtain ⟨mid, hmid⟩ := h.above
  have hfr : (U.setTop g).frames = (.java g :: mid) ++ below := by rw [State.frames_setTop' g h.top, hmid]; rfl
  obtain ⟨o, s₂, hsteps, -, hend, hq⟩ := Steps.callFree hM p X.admits X.cas X.clock (acts := []) hfr happ hPc trivial
  have hq' : vx_Q Qc XC mc ms free a (U.calling g mk a) o s₂ := hq
  rw [State.frames_setTop' g h.top] at hend
  obtain ⟨g₀, hg0⟩ := Option.isSome_iff_exists.mp h.top
  obtain ⟨r, hr⟩ := State.topJava?_eq_some.mp hg0
  have hr' : (({ U with heap := s₂.heap, slotsUsed := s₂.slotsUsed } : State).setVm s₂.vm).frames = .java g₀ :: r := hr
  rcases hq' with ⟨hqc, L, hfe, hL⟩ | ⟨q, rfl, E, ce, L, hx, hce, hcv, hcl, hW₂, hsm, hL⟩
  · obtain ⟨⟨v, rfl⟩, hW₂, e2, q2, q3, q4, q5, q6⟩ := id hfe
    have e3 : s₂ = ({ (U.calling g mk a).setFrames s₂.frames with heap := s₂.heap, slotsUsed := s₂.slotsUsed } : State).setVm s₂.vm := by
      have : s₂ = ({ s₂ with vm := (U.calling g mk a).vm } : State).setVm s₂.vm := rfl
      rw [e2] at this
      exact this
    obtain ⟨c₂, i₂, len₂, hc₂, hd₂, hf₂⟩ := hend
    have hW' : U.WarmedH s₂.vm := hW₂
    have hcc : c₂ = c := by
      have h1 : s₂.code? g.method = U.code? g.method := by
        rw [State.code?_eq, State.code?_eq, hW'.alike.method?]
      exact Option.some.inj (hc₂.symm.trans (h1.trans h.code))
    subst hcc
    have hlen : len₂ = len := by rw [hdg] at hd₂; cases hd₂; rfl
    subst hlen
    have hs₂ : s₂ = (({ U with heap := s₂.heap, slotsUsed := s₂.slotsUsed } : State).setVm s₂.vm).setTop { g with pc := g.pc + len₂, stack := v.toList ++ g.stack } := by
      refine e3.trans ?_
      rw [hf₂, State.calling_eq h.top, State.setFrames_setFrames, State.setTop_of_frames _ hr', hr]
      rfl
    have hsame : U.sameButNew ({ U with heap := s₂.heap, slotsUsed := s₂.slotsUsed } : State) L mc ms := by
      refine ⟨?_, q2, q3, q4, q5, q6⟩
      obtain ⟨t, ht, -⟩ := State.frames_cons hr
      show ({ U with heap := s₂.heap, slotsUsed := s₂.slotsUsed } : State) = { U.setFrames U.frames with heap := s₂.heap, slotsUsed := s₂.slotsUsed }
      rw [State.setFrames_self ht]
    subst hg
    refine Or.inl ⟨v, ⟨(({ U with heap := s₂.heap, slotsUsed := s₂.slotsUsed } : State).setVm s₂.vm), Ls ++ L, c0 + mc, s0 + ms⟩,
      ⟨X.admits, X.cas, X.clock, X.frames, X.room, X.hears, X.method, X.code, (X.here.setHeapUsed s₂.heap s₂.slotsUsed).setVm hW'.alike, X.tail, State.WarmedH.trans X.warmed hW', X.limits, X.bytes, X.same.trans (hsame.setVm s.vm)⟩,
      ⟨g, mk, s₂, L, rfl, rfl, hqc, rfl, hL, rfl, rfl⟩, ?_⟩
    show Steps p.tables e below _ ((({ U with heap := s₂.heap, slotsUsed := s₂.slotsUsed } : State).setVm s₂.vm).setTop { g with pc := g.pc + len₂, stack := v.toList ++ g.stack })
    rw [← hs₂]
    exact hsteps
  · obtain ⟨e2, q2, q3, q4, q5, q6⟩ := id hsm
    have e3 : s₂ = ({ (U.calling g mk a).setFrames s₂.frames with heap := s₂.heap, slotsUsed := s₂.slotsUsed } : State).setVm s₂.vm := by
      have : s₂ = ({ s₂ with vm := (U.calling g mk a).vm } : State).setVm s₂.vm := rfl
      rw [e2] at this
      exact this
    have hf₂ : s₂.frames = .throwing q :: .java g :: U.frames.tail := hend
    have hW' : U.WarmedH s₂.vm := hW₂
    have hs₂ : s₂ = ((({ U with heap := s₂.heap, slotsUsed := s₂.slotsUsed } : State).setVm s₂.vm).setTop g).pushFrame (.throwing q) := by
      refine e3.trans ?_
      rw [hf₂, State.calling_eq h.top, State.setFrames_setFrames, State.pushFrame, State.frames_setTop _ hr', State.setTop_of_frames _ hr', State.setFrames_setFrames, hr]
      rfl
    have hsame : U.sameButNew ({ U with heap := s₂.heap, slotsUsed := s₂.slotsUsed } : State) L mc ms := by
      refine ⟨?_, q2, q3, q4, q5, q6⟩
      obtain ⟨t, ht, -⟩ := State.frames_cons hr
      show ({ U with heap := s₂.heap, slotsUsed := s₂.slotsUsed } : State) = { U.setFrames U.frames with heap := s₂.heap, slotsUsed := s₂.slotsUsed }
      rw [State.setFrames_self ht]
    subst hg
    refine Or.inr ⟨q, ⟨(({ U with heap := s₂.heap, slotsUsed := s₂.slotsUsed } : State).setVm s₂.vm), Ls ++ L, c0 + mc, s0 + ms⟩,
      ⟨X.admits, X.cas, X.clock, X.frames, X.room, X.hears, X.method, X.code, (X.here.setHeapUsed s₂.heap s₂.slotsUsed).setVm hW'.alike, X.tail, State.WarmedH.trans X.warmed hW', X.limits, X.bytes, X.same.trans (hsame.setVm s.vm)⟩,
      ⟨g, mk, s₂, L, E, ce, rfl, rfl, hx, hce, hcv, hcl, rfl, hL, rfl, rfl⟩, ?_⟩
    show Steps p.tables e below _ (((({ U with heap := s₂.heap, slotsUsed := s₂.slotsUsed } : State).setVm s₂.vm).setTop g).pushFrame (.throwing q))
    rw [← hs₂]
    exact hsteps
end Payer
section Calls
variable {p : Program} {l : Launch} {e : Env} {R : Room} {s : State} {m : MethodId} {args : Array Value} {below : List Frame} {meth : Method} {c : Code} {T : State} {locs : List Loc} {cells slots : Nat}
theorem vx_callV (X : Stand p l e R s m args below meth c T locs cells slots) (hexec : p.tables.exec = Jvm.exec) {own C : String} {index : Nat} {y : MethodName} {bytes : ByteArray} {maxL : Nat} {ret : Option FieldType}
    (hown : s.vm.findClass own = some m.cls) (hlink : (Cond.methodLink own index y).before args s = true) (hinst : (Cond.instanceMethod y).before args s = true) (hsel : (Cond.selects C y y).before args s = true)
    (hcode : (Cond.code y bytes maxL ret).before args s = true) (hy : y.cls ≠ "java/lang/invoke/MethodHandle" ∧ y.cls ≠ "java/lang/invoke/VarHandle")
    {W9 : Nat} {Pre : Pt → Array Value → Prop} {Post : Pt → Array Value → Option Value → Pt → Prop} {PostX : Pt → Array Value → Addr → Pt → Prop} (hK : vx_Back l R p e below s args y 3 W9 Pre Post PostX)
    {b : Addr} {cellB : Cell} (hcell : T.heap[b]? = some cellB) (hobj : cellB.vm.isStatics = false) (hcls : s.vm.findClass C = some cellB.cls)
    {g : JFrame} (hg : g.method = m) (hsize : g.locals.size = c.maxLocals) {argsL rest : List Value} (hlen : ∀ sig, parseMethodDescriptor y.desc = some sig → argsL.length = sig.parameters.length)
    (hstack : g.stack = argsL.reverse ++ .ref b :: rest) (hW : 2 * g.monitorRoom + (rest.map fun v => v.category).sum ≤ W9) (hdg : decode c.code g.pc = .ok (.invokevirtual index, 3))
    (hpre : ∀ vm₁, s.WarmedH vm₁ → Pre ⟨T.setVm vm₁, locs, cells, slots⟩ (Value.ref b :: argsL).toArray) :
    (∃ (v : Option Value) (vm₁ : Vm) (B : Pt), s.WarmedH vm₁ ∧ Stand p l e R s m args below meth c B.U B.locs B.cells B.slots ∧ Post ⟨T.setVm vm₁, locs, cells, slots⟩ (Value.ref b :: argsL).toArray v B ∧
      ∀ target, Steps p.tables e below (B.U.setTop { g with pc := g.pc + 3, stack := v.toList ++ rest }) target → Steps p.tables e below (T.setTop g) target) ∨
    (∃ (q : Addr) (vm₁ : Vm) (B : Pt), s.WarmedH vm₁ ∧ Stand p l e R s m args below meth c B.U B.locs B.cells B.slots ∧ PostX ⟨T.setVm vm₁, locs, cells, slots⟩ (Value.ref b :: argsL).toArray q B ∧
      Steps p.tables e below (T.setTop g) ((B.U.setTop { g with stack := rest }).pushFrame (.throwing q))) := by
  obtain ⟨mk, methM, hnamed, hmethM, hstM, habM⟩ := Cond.instanceMethod_spec hinst
  obtain ⟨methM', cM, hmethM', -, -, -, -, -, -, hsigM⟩ := Cond.code_spec hnamed hcode
  cases hmethM.symm.trans hmethM'
  obtain ⟨c2, r2, m2, q1, q2, q3, q4, kP, hkP, hkPi⟩ := Cond.selects_spec hsel
  cases hcls.symm.trans q1
  cases (State.methodFound?_of_named hnamed hy).symm.trans q2
  cases hnamed.symm.trans q3
  have hselP : selectMethod e.platform s.vm cellB.cls mk = .method mk := by rw [Launch.admits_selectMethod X.admits]; exact q4
  obtain ⟨vm₁, X₁, hstep₁⟩ := X.invokevirtual hexec hown hlink hnamed hmethM hstM hkP hkPi hy (a := b) (cell := cellB) hcell
    (fun z h => by rw [h] at hobj; cases hobj) hselP hmethM habM hkP hkPi (g := g) hg (argsL := argsL) (rest := rest) (hlen _ hsigM) hstack hdg
  rcases hK m meth c ⟨T.setVm vm₁, locs, cells, slots⟩ { g with stack := rest } (.invokevirtual index) mk (Value.ref b :: argsL).toArray X₁ hg hsize hdg hW (X₁.named hnamed) (hpre vm₁ X₁.warmed) with ⟨v, B, X', hpost, hsteps⟩ | ⟨q, B, X', hpost, hsteps⟩
  · exact Or.inl ⟨v, vm₁, B, X₁.warmed, X', hpost, fun target h => hstep₁ _ fun acts => by rw [doInvoke_state]; exact hsteps.trans h⟩
  · exact Or.inr ⟨q, vm₁, B, X₁.warmed, X', hpost, hstep₁ _ fun acts => by rw [doInvoke_state]; exact hsteps⟩
theorem vx_callS (X : Stand p l e R s m args below meth c T locs cells slots) (hexec : p.tables.exec = Jvm.exec) {own : String} {index : Nat} {y : MethodName} {bytes : ByteArray} {maxL : Nat} {ret : Option FieldType}
    (hown : s.vm.findClass own = some m.cls) (hlink : (Cond.methodLink own index y).before args s = true) (hstat : (Cond.static y).before args s = true) (hinit : (Cond.initialized y.cls).before args s = true)
    (hcode : (Cond.code y bytes maxL ret).before args s = true) (hy : y.cls ≠ "java/lang/invoke/MethodHandle" ∧ y.cls ≠ "java/lang/invoke/VarHandle")
    {W9 : Nat} {Pre : Pt → Array Value → Prop} {Post : Pt → Array Value → Option Value → Pt → Prop} {PostX : Pt → Array Value → Addr → Pt → Prop} (hK : vx_Back l R p e below s args y 3 W9 Pre Post PostX)
    {g : JFrame} (hg : g.method = m) (hsize : g.locals.size = c.maxLocals) {argsL rest : List Value} (hlen : ∀ sig, parseMethodDescriptor y.desc = some sig → argsL.length = sig.parameters.length)
    (hstack : g.stack = argsL.reverse ++ rest) (hW : 2 * g.monitorRoom + (rest.map fun v => v.category).sum ≤ W9) (hdg : decode c.code g.pc = .ok (.invokestatic index, 3))
    (hpre : ∀ vm₁, s.WarmedH vm₁ → Pre ⟨T.setVm vm₁, locs, cells, slots⟩ argsL.toArray) :
    (∃ (v : Option Value) (vm₁ : Vm) (B : Pt), s.WarmedH vm₁ ∧ Stand p l e R s m args below meth c B.U B.locs B.cells B.slots ∧ Post ⟨T.setVm vm₁, locs, cells, slots⟩ argsL.toArray v B ∧
      ∀ target, Steps p.tables e below (B.U.setTop { g with pc := g.pc + 3, stack := v.toList ++ rest }) target → Steps p.tables e below (T.setTop g) target) ∨
    (∃ (q : Addr) (vm₁ : Vm) (B : Pt), s.WarmedH vm₁ ∧ Stand p l e R s m args below meth c B.U B.locs B.cells B.slots ∧ PostX ⟨T.setVm vm₁, locs, cells, slots⟩ argsL.toArray q B ∧
      Steps p.tables e below (T.setTop g) ((B.U.setTop { g with stack := rest }).pushFrame (.throwing q))) := by
  obtain ⟨mk, hnamed⟩ := Cond.code_named hcode
  obtain ⟨methM, cM, hmethM, -, -, -, -, -, -, hsigM⟩ := Cond.code_spec hnamed hcode
  have hstatic : methM.isStatic = true := Cond.static_spec hnamed hmethM hstat
  obtain ⟨kP, hkP, -⟩ := className_of_methodNamed hnamed
  have hinitP : kP.init = .initialized := Cond.initialized_spec (findClass_of_methodNamed hnamed) hkP hinit
  obtain ⟨vm₁, X₁, hstep₁⟩ := X.invokestatic hexec hown hlink hnamed hmethM hstatic hkP hinitP hy (g := g) hg (argsL := argsL) (rest := rest) (hlen _ hsigM) hstack hdg
  rcases hK m meth c ⟨T.setVm vm₁, locs, cells, slots⟩ { g with stack := rest } (.invokestatic index) mk argsL.toArray X₁ hg hsize hdg hW (X₁.named hnamed) (hpre vm₁ X₁.warmed) with ⟨v, B, X', hpost, hsteps⟩ | ⟨q, B, X', hpost, hsteps⟩
  · exact Or.inl ⟨v, vm₁, B, X₁.warmed, X', hpost, fun target h => hstep₁ _ fun acts => by rw [doInvoke_state]; exact hsteps.trans h⟩
  · exact Or.inr ⟨q, vm₁, B, X₁.warmed, X', hpost, hstep₁ _ fun acts => by rw [doInvoke_state]; exact hsteps⟩
end Calls
theorem vx_cls {s : State} {T : State} {vm₁ : Vm} {E : String} {k : ClassId} (hW : s.WarmedH vm₁) (h : (T.setVm vm₁).vm.findClass E = some k) : s.vm.findClass E = some k := by
  have h1 : vm₁.findClass E = some k := h
  rw [hW.alike.findClass] at h1
  exact h1
/-- the method's frame g, with q thrown over it -/
def vx_W (p : Program) (l : Launch) (e : Env) (R : Room) (s : State) (m : MethodId) (args : Array Value) (below : List Frame) (meth : Method) (c : Code) (H : Heap) (locs : List Loc) (cells slots : Nat) (Q : State → Prop) (g : JFrame) (q : Addr) : Prop :=
  ∀ T : State, T.heap = H → Stand p l e R s m args below meth c T locs cells slots → ∃ t, Steps p.tables e below ((T.setTop g).pushFrame (.throwing q)) t ∧ Q t
def vx_Run (p : Program) (l : Launch) (e : Env) (R : Room) (s : State) (m : MethodId) (args : Array Value) (below : List Frame) (meth : Method) (c : Code) (H : Heap) (locs : List Loc) (cells slots mc ms : Nat) (g : JFrame) (rest : List Value) (Qa : State → Outcome → State → Prop) (XC : String → State → State → Prop) (free : Addr → Prop) : Prop :=
  ∀ T : State, T.heap = H → Stand p l e R s m args below meth c T locs cells slots →
    (∃ (v : Option Value) (st₀ t T' : State) (L : List Loc), st₀.heap = H ∧ Stand p l e R s m args below meth c T' (locs ++ L) (cells + mc) (slots + ms) ∧ (∀ q ∈ L, free q.base) ∧ T'.heap = t.heap ∧ T'.vm = t.vm ∧ Qa st₀ (.returned v) t ∧
      Goes p e below T g T' { g with pc := g.pc + 3, stack := v.toList ++ rest }) ∨
    (∃ (q : Addr) (st₀ t T' : State) (L : List Loc) (E : String) (ce : Cell), st₀.heap = H ∧ Stand p l e R s m args below meth c T' (locs ++ L) (cells + mc) (slots + ms) ∧ (∀ z ∈ L, free z.base) ∧ T'.heap = t.heap ∧ T'.vm = t.vm ∧ XC E st₀ t ∧ t.heap[q]? = some ce ∧ ce.vm = .none ∧ s.vm.findClass E = some ce.cls ∧
      Steps p.tables e below (T.setTop g) ((T'.setTop { g with stack := rest }).pushFrame (.throwing q)))
def vx_X {S : Type} (px : S → Prop) (B : String → S → State → Prop) (A : Nat → Prop) : String → State → State → Prop := fun E st t => ∃ u : S, px u ∧ B E u t ∧ va_F A st t
section Runs
variable {p : Program} {l : Launch} {e : Env} {R : Room} {s : State} {m : MethodId} {args : Array Value} {below : List Frame} {meth : Method} {c : Code} {H : Heap} {locs : List Loc} {cells slots : Nat}
variable {y : MethodName} {bytes cc : ByteArray} {maxL nL mc ms n index : Nat} {ret : Option FieldType} {ws : List Cond} {rm : Room} {Pc : Array Value → State → Prop} {Qc : Array Value → State → Outcome → State → Prop} {XC : String → State → State → Prop} {free : Addr → Prop} {Ts : List Cond} {own C : String} {b : Addr} {As rest : List Value} {g : JFrame}
theorem vx_callBack (cb : CallB R s args own index y bytes maxL ret ws rm mc ms n) (hM : vx_Met l y ws rm Pc Qc XC mc ms free) (hbl : FrameBlind Pc) : vx_Back l R p e below s args y 3 8 (PreOf R mc ms Pc) (PostOf Qc mc ms free) (vx_Post XC mc ms free) := by
  obtain ⟨hrc, hrs, hfr, hlo, hws, hcw, -, hini, -⟩ := cb
  exact vx_back (bytes := bytes) (maxL := maxL) (ret := ret) hM hbl hrc hrs hfr hlo hws hcw (fun a' U hW => word_at hW (Or.inl (by first | rfl | simp [Cond.onTables, Cond.keeps, Cond.steady])) hini)
theorem vx_runV (S : CallFix p m c cc nL s args Ts own) (hM : vx_Met l y ws rm Pc Qc XC mc ms free) (cw : CallW R s args own C index y bytes maxL ret ws rm mc ms n) (hp : PreV s H C b Pc As)
    (hg : g.method = m) (hn : As.length = n) (hsize : g.locals.size = nL) (hstack : g.stack = As.reverse ++ .ref b :: rest) (hW : 2 * g.monitorRoom + (rest.map fun v => v.category).sum ≤ 8) (hdg : decode cc g.pc = .ok (.invokevirtual index, 3)) (hf : cells + mc ≤ R.cells ∧ slots + ms ≤ R.slots) :
    vx_Run p l e R s m args below meth c H locs cells slots mc ms g rest (Qc (Value.ref b :: As).toArray) XC free := by
  have hK : vx_Back l R p e below s args y 3 8 (PreOf R mc ms Pc) (PostOf Qc mc ms free) (vx_Post XC mc ms free) := vx_callBack cw.1 hM hp.1
  obtain ⟨⟨-, -, -, -, -, -, hcode, -, hy, hlen, hl⟩, hin, hse⟩ := cw
  obtain ⟨hx, hb, hml, ho, -⟩ := S
  obtain ⟨-, ⟨cellB, hcB, hoB, hclB⟩, hPc⟩ := hp
  intro T hT X
  rcases vx_callV X hx (C := C) (bytes := bytes) (maxL := maxL) (ret := ret) ho hl hin hse hcode hy hK (by rw [hT]; exact hcB) hoB hclB hg (hsize.trans hml.symm) (argsL := As) (rest := rest) (fun sig h => hn.trans (hlen sig h)) hstack hW (by rw [hb]; exact hdg)
    (fun vm₁ hW₁ => ⟨hf.1, hf.2, hPc (T.setVm vm₁) hT hW₁⟩) with ⟨v, vm₁, ⟨U', l2, c2, s2⟩, hW₁, X', ⟨g', mk, t, L, e1, e2, hq, h1, hL, h2, h3⟩, st⟩ | ⟨q, vm₁, ⟨U', l2, c2, s2⟩, hW₁, X', ⟨g', mk, t, L, E, ce, e1, e2, hq, hce, hcv, hcl, h1, hL, h2, h3⟩, st⟩
  · dsimp only [Pt.U, Pt.locs, Pt.cells, Pt.slots] at X' e1 e2 h1 h2 h3 st
    subst h1; subst h2; subst h3
    exact Or.inl ⟨v, (T.setVm vm₁).calling g' mk (Value.ref b :: As).toArray, t, U', L, hT, X', hL, e1, e2, hq, st⟩
  · dsimp only [Pt.U, Pt.locs, Pt.cells, Pt.slots] at X' e1 e2 h1 h2 h3 st hcl
    subst h1; subst h2; subst h3
    exact Or.inr ⟨q, (T.setVm vm₁).calling g' mk (Value.ref b :: As).toArray, t, U', L, E, ce, hT, X', hL, e1, e2, hq, hce, hcv, vx_cls hW₁ hcl, st⟩
theorem vx_runS (S : CallFix p m c cc nL s args Ts own) (hM : vx_Met l y ws rm Pc Qc XC mc ms free) (cw : CallB R s args own index y bytes maxL ret ws rm mc ms n ∧ (Cond.static y).before args s = true) (hp : PreS s H Pc As)
    (hg : g.method = m) (hn : As.length = n) (hsize : g.locals.size = nL) (hstack : g.stack = As.reverse ++ rest) (hW : 2 * g.monitorRoom + (rest.map fun v => v.category).sum ≤ 8) (hdg : decode cc g.pc = .ok (.invokestatic index, 3)) (hf : cells + mc ≤ R.cells ∧ slots + ms ≤ R.slots) :
    vx_Run p l e R s m args below meth c H locs cells slots mc ms g rest (Qc As.toArray) XC free := by
  have hK : vx_Back l R p e below s args y 3 8 (PreOf R mc ms Pc) (PostOf Qc mc ms free) (vx_Post XC mc ms free) := vx_callBack cw.1 hM hp.1
  obtain ⟨⟨-, -, -, -, -, -, hcode, hini, hy, hlen, hl⟩, hstt⟩ := cw
  obtain ⟨hx, hb, hml, ho, -⟩ := S
  intro T hT X
  rcases vx_callS X hx (bytes := bytes) (maxL := maxL) (ret := ret) ho hl hstt hini hcode hy hK hg (hsize.trans hml.symm) (argsL := As) (rest := rest) (fun sig h => hn.trans (hlen sig h)) hstack hW (by rw [hb]; exact hdg)
    (fun vm₁ hW₁ => ⟨hf.1, hf.2, hp.2 (T.setVm vm₁) hT hW₁⟩) with ⟨v, vm₁, ⟨U', l2, c2, s2⟩, hW₁, X', ⟨g', mk, t, L, e1, e2, hq, h1, hL, h2, h3⟩, st⟩ | ⟨q, vm₁, ⟨U', l2, c2, s2⟩, hW₁, X', ⟨g', mk, t, L, E, ce, e1, e2, hq, hce, hcv, hcl, h1, hL, h2, h3⟩, st⟩
  · dsimp only [Pt.U, Pt.locs, Pt.cells, Pt.slots] at X' e1 e2 h1 h2 h3 st
    subst h1; subst h2; subst h3
    exact Or.inl ⟨v, (T.setVm vm₁).calling g' mk As.toArray, t, U', L, hT, X', hL, e1, e2, hq, st⟩
  · dsimp only [Pt.U, Pt.locs, Pt.cells, Pt.slots] at X' e1 e2 h1 h2 h3 st hcl
    subst h1; subst h2; subst h3
    exact Or.inr ⟨q, (T.setVm vm₁).calling g' mk As.toArray, t, U', L, E, ce, hT, X', hL, e1, e2, hq, hce, hcv, vx_cls hW₁ hcl, st⟩
end Runs
section Rows
variable {p : Program} {l : Launch} {e : Env} {R : Room} {s : State} {m : MethodId} {args : Array Value} {below : List Frame} {meth : Method} {c : Code} {H : Heap} {locs : List Loc} {cells slots : Nat} {Q : State → Prop}
variable {mc ms : Nat} {free : Addr → Prop} {A0 A1 : Nat → Prop} {H0 : Heap} {a : Array Value} {pc : Nat} {ls : Array Slot} {st0 rest : List Value}
theorem vx_keep {st₀ t T' : State} {L : List Loc} (h0 : st₀.heap = H) (e1 : T'.heap = t.heap) (hS : va_S A0 H0 H locs) (hA : ∀ q, q < H.size → A1 q → A0 q) (hf : ∀ q, free q → A0 q) (hL : ∀ q ∈ L, free q.base) (hF : va_F A1 st₀ t) :
    H.size ≤ T'.heap.size ∧ (∀ q : Nat, q < H.size → ¬ A1 q → T'.heap[q]? = H[q]?) ∧ va_S A0 H0 T'.heap (locs ++ L) := by
  obtain ⟨hz, hk⟩ := hF
  rw [h0] at hz hk
  exact ⟨by rw [e1]; exact hz, fun q h1 h2 => by rw [e1]; exact hk q h1 h2,
    ⟨Nat.le_trans hS.1 (by rw [e1]; exact hz), fun q h1 h2 => by rw [e1, hk q (Nat.lt_of_lt_of_le h1 hS.1) (fun z => h2 (hA q (Nat.lt_of_lt_of_le h1 hS.1) z))]; exact hS.2.1 q h1 h2, fun q hq => by
      rcases List.mem_append.mp hq with h | h
      · exact hS.2.2 q h
      · exact hf _ (hL q h)⟩⟩
theorem vx_calli {S SX : Type} {post : Int32 → S → Prop} {px : SX → Prop} {B : S → State → Prop} {BX : String → SX → State → Prop} {AX : Nat → Prop} (hr : vx_Run p l e R s m args below meth c H locs cells slots mc ms (F0 m pc ls st0) rest (va_Qi post B A1 a) (vx_X px BX AX) free) (hS : va_S A0 H0 H locs) (hA : ∀ q, q < H.size → A1 q → A0 q) (hf : ∀ q, free q → A0 q) (hAX : ∀ q, q < H.size → AX q → A0 q)
    (kx : ∀ (E : String) (ce : Cell) (q9 : Addr) (u : SX) (t : State) (H1 : Heap) (locs1 : List Loc), t.heap = H1 → s.vm.Alike t.vm → px u → BX E u t → H.size ≤ H1.size → (∀ q : Nat, q < H.size → ¬ AX q → H1[q]? = H[q]?) → va_S A0 H0 H1 locs1 → H1[q9]? = some ce → ce.vm = .none → s.vm.findClass E = some ce.cls → vx_W p l e R s m args below meth c H1 locs1 (cells + mc) (slots + ms) Q (F0 m pc ls rest) q9)
    (kk : ∀ (r : Int32) (u : S) (t : State) (H1 : Heap) (locs1 : List Loc), t.heap = H1 → s.vm.Alike t.vm → post r u → B u t → H.size ≤ H1.size → (∀ q : Nat, q < H.size → ¬ A1 q → H1[q]? = H[q]?) → va_S A0 H0 H1 locs1 → W p l e R s m args below meth c H1 locs1 (cells + mc) (slots + ms) Q (F0 m (pc + 3) ls (.int r :: rest))) : W p l e R s m args below meth c H locs cells slots Q (F0 m pc ls st0) := by
  intro T hT X
  rcases hr T hT X with ⟨v, st₀, t, T', L, h0, X', hL, e1, e2, ⟨⟨r, u, hv, hp, hb⟩, hF⟩, st⟩ | ⟨q, st₀, t, T', L, E, ce, h0, X', hL, e1, e2, ⟨u, hp, hb, hF⟩, hce, hcv, hcl, st⟩
  · cases hv
    obtain ⟨k1, k2, k3⟩ := vx_keep h0 e1 hS hA hf hL hF
    obtain ⟨t2, a1, b1⟩ := kk r u t T'.heap (locs ++ L) e1.symm (by rw [← e2]; exact X'.warmed.alike) hp hb k1 k2 k3 T' rfl X'
    exact ⟨t2, st t2 a1, b1⟩
  · obtain ⟨k1, k2, k3⟩ := vx_keep h0 e1 hS hAX hf hL hF
    obtain ⟨t2, a1, b1⟩ := kx E ce q u t T'.heap (locs ++ L) e1.symm (by rw [← e2]; exact X'.warmed.alike) hp hb k1 k2 k3 (by rw [e1]; exact hce) hcv hcl T' rfl X'
    exact ⟨t2, st.trans a1, b1⟩
theorem vx_calll {S SX : Type} {post : Int64 → S → Prop} {px : SX → Prop} {B : S → State → Prop} {BX : String → SX → State → Prop} {AX : Nat → Prop} (hr : vx_Run p l e R s m args below meth c H locs cells slots mc ms (F0 m pc ls st0) rest (va_Ql post B A1 a) (vx_X px BX AX) free) (hS : va_S A0 H0 H locs) (hA : ∀ q, q < H.size → A1 q → A0 q) (hf : ∀ q, free q → A0 q) (hAX : ∀ q, q < H.size → AX q → A0 q)
    (kx : ∀ (E : String) (ce : Cell) (q9 : Addr) (u : SX) (t : State) (H1 : Heap) (locs1 : List Loc), t.heap = H1 → s.vm.Alike t.vm → px u → BX E u t → H.size ≤ H1.size → (∀ q : Nat, q < H.size → ¬ AX q → H1[q]? = H[q]?) → va_S A0 H0 H1 locs1 → H1[q9]? = some ce → ce.vm = .none → s.vm.findClass E = some ce.cls → vx_W p l e R s m args below meth c H1 locs1 (cells + mc) (slots + ms) Q (F0 m pc ls rest) q9)
    (kk : ∀ (r : Int64) (u : S) (t : State) (H1 : Heap) (locs1 : List Loc), t.heap = H1 → s.vm.Alike t.vm → post r u → B u t → H.size ≤ H1.size → (∀ q : Nat, q < H.size → ¬ A1 q → H1[q]? = H[q]?) → va_S A0 H0 H1 locs1 → W p l e R s m args below meth c H1 locs1 (cells + mc) (slots + ms) Q (F0 m (pc + 3) ls (.long r :: rest))) : W p l e R s m args below meth c H locs cells slots Q (F0 m pc ls st0) := by
  intro T hT X
  rcases hr T hT X with ⟨v, st₀, t, T', L, h0, X', hL, e1, e2, ⟨⟨r, u, hv, hp, hb⟩, hF⟩, st⟩ | ⟨q, st₀, t, T', L, E, ce, h0, X', hL, e1, e2, ⟨u, hp, hb, hF⟩, hce, hcv, hcl, st⟩
  · cases hv
    obtain ⟨k1, k2, k3⟩ := vx_keep h0 e1 hS hA hf hL hF
    obtain ⟨t2, a1, b1⟩ := kk r u t T'.heap (locs ++ L) e1.symm (by rw [← e2]; exact X'.warmed.alike) hp hb k1 k2 k3 T' rfl X'
    exact ⟨t2, st t2 a1, b1⟩
  · obtain ⟨k1, k2, k3⟩ := vx_keep h0 e1 hS hAX hf hL hF
    obtain ⟨t2, a1, b1⟩ := kx E ce q u t T'.heap (locs ++ L) e1.symm (by rw [← e2]; exact X'.warmed.alike) hp hb k1 k2 k3 (by rw [e1]; exact hce) hcv hcl T' rfl X'
    exact ⟨t2, st.trans a1, b1⟩
theorem vx_callf {S SX : Type} {post : UInt32 → S → Prop} {px : SX → Prop} {B : S → State → Prop} {BX : String → SX → State → Prop} {AX : Nat → Prop} (hr : vx_Run p l e R s m args below meth c H locs cells slots mc ms (F0 m pc ls st0) rest (va_Qf post B A1 a) (vx_X px BX AX) free) (hS : va_S A0 H0 H locs) (hA : ∀ q, q < H.size → A1 q → A0 q) (hf : ∀ q, free q → A0 q) (hAX : ∀ q, q < H.size → AX q → A0 q)
    (kx : ∀ (E : String) (ce : Cell) (q9 : Addr) (u : SX) (t : State) (H1 : Heap) (locs1 : List Loc), t.heap = H1 → s.vm.Alike t.vm → px u → BX E u t → H.size ≤ H1.size → (∀ q : Nat, q < H.size → ¬ AX q → H1[q]? = H[q]?) → va_S A0 H0 H1 locs1 → H1[q9]? = some ce → ce.vm = .none → s.vm.findClass E = some ce.cls → vx_W p l e R s m args below meth c H1 locs1 (cells + mc) (slots + ms) Q (F0 m pc ls rest) q9)
    (kk : ∀ (r : UInt32) (u : S) (t : State) (H1 : Heap) (locs1 : List Loc), t.heap = H1 → s.vm.Alike t.vm → post r u → B u t → H.size ≤ H1.size → (∀ q : Nat, q < H.size → ¬ A1 q → H1[q]? = H[q]?) → va_S A0 H0 H1 locs1 → W p l e R s m args below meth c H1 locs1 (cells + mc) (slots + ms) Q (F0 m (pc + 3) ls (.float r :: rest))) : W p l e R s m args below meth c H locs cells slots Q (F0 m pc ls st0) := by
  intro T hT X
  rcases hr T hT X with ⟨v, st₀, t, T', L, h0, X', hL, e1, e2, ⟨⟨r, u, hv, hp, hb⟩, hF⟩, st⟩ | ⟨q, st₀, t, T', L, E, ce, h0, X', hL, e1, e2, ⟨u, hp, hb, hF⟩, hce, hcv, hcl, st⟩
  · cases hv
    obtain ⟨k1, k2, k3⟩ := vx_keep h0 e1 hS hA hf hL hF
    obtain ⟨t2, a1, b1⟩ := kk r u t T'.heap (locs ++ L) e1.symm (by rw [← e2]; exact X'.warmed.alike) hp hb k1 k2 k3 T' rfl X'
    exact ⟨t2, st t2 a1, b1⟩
  · obtain ⟨k1, k2, k3⟩ := vx_keep h0 e1 hS hAX hf hL hF
    obtain ⟨t2, a1, b1⟩ := kx E ce q u t T'.heap (locs ++ L) e1.symm (by rw [← e2]; exact X'.warmed.alike) hp hb k1 k2 k3 (by rw [e1]; exact hce) hcv hcl T' rfl X'
    exact ⟨t2, st.trans a1, b1⟩
theorem vx_calld {S SX : Type} {post : UInt64 → S → Prop} {px : SX → Prop} {B : S → State → Prop} {BX : String → SX → State → Prop} {AX : Nat → Prop} (hr : vx_Run p l e R s m args below meth c H locs cells slots mc ms (F0 m pc ls st0) rest (va_Qd post B A1 a) (vx_X px BX AX) free) (hS : va_S A0 H0 H locs) (hA : ∀ q, q < H.size → A1 q → A0 q) (hf : ∀ q, free q → A0 q) (hAX : ∀ q, q < H.size → AX q → A0 q)
    (kx : ∀ (E : String) (ce : Cell) (q9 : Addr) (u : SX) (t : State) (H1 : Heap) (locs1 : List Loc), t.heap = H1 → s.vm.Alike t.vm → px u → BX E u t → H.size ≤ H1.size → (∀ q : Nat, q < H.size → ¬ AX q → H1[q]? = H[q]?) → va_S A0 H0 H1 locs1 → H1[q9]? = some ce → ce.vm = .none → s.vm.findClass E = some ce.cls → vx_W p l e R s m args below meth c H1 locs1 (cells + mc) (slots + ms) Q (F0 m pc ls rest) q9)
    (kk : ∀ (r : UInt64) (u : S) (t : State) (H1 : Heap) (locs1 : List Loc), t.heap = H1 → s.vm.Alike t.vm → post r u → B u t → H.size ≤ H1.size → (∀ q : Nat, q < H.size → ¬ A1 q → H1[q]? = H[q]?) → va_S A0 H0 H1 locs1 → W p l e R s m args below meth c H1 locs1 (cells + mc) (slots + ms) Q (F0 m (pc + 3) ls (.double r :: rest))) : W p l e R s m args below meth c H locs cells slots Q (F0 m pc ls st0) := by
  intro T hT X
  rcases hr T hT X with ⟨v, st₀, t, T', L, h0, X', hL, e1, e2, ⟨⟨r, u, hv, hp, hb⟩, hF⟩, st⟩ | ⟨q, st₀, t, T', L, E, ce, h0, X', hL, e1, e2, ⟨u, hp, hb, hF⟩, hce, hcv, hcl, st⟩
  · cases hv
    obtain ⟨k1, k2, k3⟩ := vx_keep h0 e1 hS hA hf hL hF
    obtain ⟨t2, a1, b1⟩ := kk r u t T'.heap (locs ++ L) e1.symm (by rw [← e2]; exact X'.warmed.alike) hp hb k1 k2 k3 T' rfl X'
    exact ⟨t2, st t2 a1, b1⟩
  · obtain ⟨k1, k2, k3⟩ := vx_keep h0 e1 hS hAX hf hL hF
    obtain ⟨t2, a1, b1⟩ := kx E ce q u t T'.heap (locs ++ L) e1.symm (by rw [← e2]; exact X'.warmed.alike) hp hb k1 k2 k3 (by rw [e1]; exact hce) hcv hcl T' rfl X'
    exact ⟨t2, st.trans a1, b1⟩
theorem vx_callv {S SX : Type} {post : S → Prop} {px : SX → Prop} {B : S → State → Prop} {BX : String → SX → State → Prop} {AX : Nat → Prop} (hr : vx_Run p l e R s m args below meth c H locs cells slots mc ms (F0 m pc ls st0) rest (va_Qv post B A1 a) (vx_X px BX AX) free) (hS : va_S A0 H0 H locs) (hA : ∀ q, q < H.size → A1 q → A0 q) (hf : ∀ q, free q → A0 q) (hAX : ∀ q, q < H.size → AX q → A0 q)
    (kx : ∀ (E : String) (ce : Cell) (q9 : Addr) (u : SX) (t : State) (H1 : Heap) (locs1 : List Loc), t.heap = H1 → s.vm.Alike t.vm → px u → BX E u t → H.size ≤ H1.size → (∀ q : Nat, q < H.size → ¬ AX q → H1[q]? = H[q]?) → va_S A0 H0 H1 locs1 → H1[q9]? = some ce → ce.vm = .none → s.vm.findClass E = some ce.cls → vx_W p l e R s m args below meth c H1 locs1 (cells + mc) (slots + ms) Q (F0 m pc ls rest) q9)
    (kk : ∀ (u : S) (t : State) (H1 : Heap) (locs1 : List Loc), t.heap = H1 → s.vm.Alike t.vm → post u → B u t → H.size ≤ H1.size → (∀ q : Nat, q < H.size → ¬ A1 q → H1[q]? = H[q]?) → va_S A0 H0 H1 locs1 → W p l e R s m args below meth c H1 locs1 (cells + mc) (slots + ms) Q (F0 m (pc + 3) ls (rest))) : W p l e R s m args below meth c H locs cells slots Q (F0 m pc ls st0) := by
  intro T hT X
  rcases hr T hT X with ⟨v, st₀, t, T', L, h0, X', hL, e1, e2, ⟨⟨u, hv, hp, hb⟩, hF⟩, st⟩ | ⟨q, st₀, t, T', L, E, ce, h0, X', hL, e1, e2, ⟨u, hp, hb, hF⟩, hce, hcv, hcl, st⟩
  · cases hv
    obtain ⟨k1, k2, k3⟩ := vx_keep h0 e1 hS hA hf hL hF
    obtain ⟨t2, a1, b1⟩ := kk u t T'.heap (locs ++ L) e1.symm (by rw [← e2]; exact X'.warmed.alike) hp hb k1 k2 k3 T' rfl X'
    exact ⟨t2, st t2 a1, b1⟩
  · obtain ⟨k1, k2, k3⟩ := vx_keep h0 e1 hS hAX hf hL hF
    obtain ⟨t2, a1, b1⟩ := kx E ce q u t T'.heap (locs ++ L) e1.symm (by rw [← e2]; exact X'.warmed.alike) hp hb k1 k2 k3 (by rw [e1]; exact hce) hcv hcl T' rfl X'
    exact ⟨t2, st.trans a1, b1⟩
end Rows
section Ends
variable {p : Program} {l : Launch} {e : Env} {R : Room} {s : State} {m : MethodId} {args : Array Value} {below : List Frame} {meth : Method} {c : Code} {H : Heap} {locs : List Loc} {cells slots : Nat} {Q : State → Prop}
variable {mc ms : Nat} {free : Addr → Prop} {A0 A1 : Nat → Prop} {H0 : Heap} {a : Array Value} {ls : Array Slot} {st0 rest : List Value}
variable {Qc : Array Value → State → Outcome → State → Prop} {XC : String → State → State → Prop}
/-- what a body that may throw owes at its end -/
def vx_MQ (below : List Frame) (Qc : Array Value → State → Outcome → State → Prop) (XC : String → State → State → Prop) (a : Array Value) (s : State) (mc ms : Nat) (free : Addr → Prop) : State → Prop := fun t =>
  ∃ o, t.status = .running ∧ Ended t below o ∧ vx_Q Qc XC mc ms free a s o t
theorem vx_ret {g : JFrame} {mc ms : Nat} (k : W p l e R s m args below meth c H locs cells slots (MQ below Qc args s mc ms free) g) : W p l e R s m args below meth c H locs cells slots (vx_MQ below Qc XC args s mc ms free) g := by
  intro T hT X
  obtain ⟨t, a1, o, b1, b2, b3, b4⟩ := k T hT X
  exact ⟨t, a1, o, b1, b2, Or.inl ⟨b3, b4⟩⟩
/-- not caught here: it goes on to the caller -/
theorem vx_widen {g : JFrame} {q : Addr} {k n : Nat} (h1 : cells ≤ k) (h2 : slots ≤ n) (kk : vx_W p l e R s m args below meth c H locs k n Q g q) : vx_W p l e R s m args below meth c H locs cells slots Q g q := fun T hT X => kk T hT (stand_widen X h1 h2)
theorem vx_out {pc : Nat} {E : String} {ce : Cell} {q : Addr} {mc ms : Nat} (hout : ∀ x ∈ c.exceptionTable.toList, covers x pc = false) (hlocks : meth.locks = false) (hcell : H[q]? = some ce) (hv : ce.vm = .none) (hcl : s.vm.findClass E = some ce.cls)
    (hx : ∀ t : State, t.heap = H → s.vm.Alike t.vm → XC E s t) (hf : ∀ z ∈ locs, free z.base) (hc : cells ≤ mc) (hs : slots ≤ ms) :
    vx_W p l e R s m args below meth c H locs cells slots (vx_MQ below Qc XC args s mc ms free) (F0 m pc ls rest) q := by
  intro T hT X
  obtain ⟨st1, hrun, hend, hW, hsm⟩ := X.leaveThrown q (g := F0 m pc ls rest) rfl rfl rfl hout hlocks
  have hcell9 : (T.setFrames (.throwing q :: below)).heap[q]? = some ce := by
    show T.heap[q]? = some ce
    rw [hT]; exact hcell
  exact ⟨_, st1, .threw q, hrun, hend, Or.inr ⟨q, rfl, E, ce, locs, hx _ hT hW.alike, hcell9, hv, hcl, hW, hsm.mono hc hs, hf⟩⟩
theorem vx_frame {U : State} {k n : Nat} (h : s.sameButNew ({ U with vm := s.vm } : State) locs k n) : s.heap.size ≤ U.heap.size ∧ ∀ q : Nat, q < s.heap.size → (∀ z ∈ locs, z.base ≠ q) → U.heap[q]? = s.heap[q]? := by
  obtain ⟨-, h2, -, -, -, h6⟩ := h
  refine ⟨h2, fun q hq hz => ?_⟩
  obtain ⟨c9, e1, e2, e3, e4⟩ := h6 q _ (Array.getElem?_eq_getElem hq)
  have hs : c9.slots = (s.heap[q]).slots := Array.ext_getElem? fun i => e4 i fun hm => hz _ hm rfl
  have h9 : c9 = s.heap[q] := by
    rw [hs] at e2
    exact e2
  have e5 : U.heap[q]? = some c9 := e1
  rw [e5, h9, Array.getElem?_eq_getElem hq]
/-- the words of a throw but the four that speak of the heap -/
def vx_no (w : Cond) : Bool := decide (w ≠ .isRef (.static Bundle.tN "UNASSIGNED_STACK" Bundle.steD)) && decide (w ≠ .isRef (.static Bundle.tN "SUPPRESSED_SENTINEL" Bundle.listD)) && decide (w ≠ .laysStatic Bundle.tN "UNASSIGNED_STACK" Bundle.steD) && decide (w ≠ .laysStatic Bundle.tN "SUPPRESSED_SENTINEL" Bundle.listD)
def vx_at0 (own : String) (ic : Nat) (X : String) (names : List String) : List Cond := (Bundle.ownAtoms0 own ic X names).filter vx_no
def vx_atS (own : String) (ic : Nat) (X : String) (names : List String) : List Cond := (Bundle.ownAtoms own ic X names).filter vx_no
/-- a word that the tables alone decide, or a good one -/
def vx_ot (w : Cond) : Bool := w.onTables || goodWord w
theorem vx_ot_at {args a' : Array Value} {s U : State} {w : Cond} (hW : s.WarmedH U.vm) (hvm : s.vm = U.vm) (hg : vx_ot w = true) (h : w.before args s = true) : w.before a' U = true := by
  simp only [vx_ot, Bool.or_eq_true] at hg
  rcases hg with hg | hg
  · exact va_tabs hg hvm h
  · exact word_at hW (good_of_word hg) h
/-- a list's words: the good ones out of the method's own list, the others by premises of their own -/
theorem vx_hat {args : Array Value} {s : State} {L B : List Cond} (h1 : ∀ w ∈ L.filter goodWord, w.before args s = true) (h2 : ∀ w ∈ L.filter (fun w => !goodWord w), w ∈ B) (h3 : ∀ w ∈ B, w.before args s = true) : ∀ w ∈ L, w.before args s = true := by
  intro w hw
  by_cases g : goodWord w = true
  · exact h1 w (List.mem_filter.mpr ⟨hw, g⟩)
  · refine h3 w (h2 w (List.mem_filter.mpr ⟨hw, ?_⟩))
    show (!goodWord w) = true
    cases hgw : goodWord w
    · rfl
    · exact absurd hgw g
theorem vx_c {args : Array Value} {s : State} {w : Cond} {B : List Cond} (h : w.before args s = true) (t : ∀ w ∈ B, w.before args s = true) : ∀ w' ∈ w :: B, w'.before args s = true := fun w' h' => (List.mem_cons.mp h').elim (fun e => by rw [e]; exact h) (t w')
theorem vx_n {args : Array Value} {s : State} : ∀ w ∈ ([] : List Cond), w.before args s = true := fun _ h => nomatch h
theorem vx_own {args : Array Value} {s : State} {L : List Cond} (h1 : ∀ w ∈ L.filter vx_no, w.before args s = true)
    (hU : (Cond.isRef (.static Bundle.tN "UNASSIGNED_STACK" Bundle.steD)).before args s = true) (hN : (Cond.isRef (.static Bundle.tN "SUPPRESSED_SENTINEL" Bundle.listD)).before args s = true)
    (lU : (Cond.laysStatic Bundle.tN "UNASSIGNED_STACK" Bundle.steD).before args s = true) (lN : (Cond.laysStatic Bundle.tN "SUPPRESSED_SENTINEL" Bundle.listD).before args s = true) : ∀ w ∈ L, w.before args s = true := by
  intro w hw
  by_cases e1 : w = .isRef (.static Bundle.tN "UNASSIGNED_STACK" Bundle.steD)
  · rw [e1]; exact hU
  · by_cases e2 : w = .isRef (.static Bundle.tN "SUPPRESSED_SENTINEL" Bundle.listD)
    · rw [e2]; exact hN
    · by_cases e3 : w = .laysStatic Bundle.tN "UNASSIGNED_STACK" Bundle.steD
      · rw [e3]; exact lU
      · by_cases e4 : w = .laysStatic Bundle.tN "SUPPRESSED_SENTINEL" Bundle.listD
        · rw [e4]; exact lN
        · exact h1 w (List.mem_filter.mpr ⟨hw, by unfold vx_no; rw [decide_eq_true e1, decide_eq_true e2, decide_eq_true e3, decide_eq_true e4]; rfl⟩)
/-- where a static field lies, its class's statics cell in H -/
def vx_L (C n d : String) (A : Nat → Prop) (U : State) (H : Heap) : Prop := ∃ (c : ClassId) (k : Class) (i : Nat) (f : Field) (a : Nat) (cell : Cell), U.vm.findClass C = some c ∧ U.fieldFound? C n d = some (c, k, i, f) ∧ f.isStatic = true ∧ k.statics = some a ∧ H[a]? = some cell ∧ cell.vm.isStatics = true ∧ cell.cls = c ∧ f.slot < cell.slots.size ∧ k.staticTypes[f.slot]? = some f.type ∧ ¬ A a
theorem vx_L.moved {C n d : String} {A : Nat → Prop} {u U : State} {H : Heap} (hvm : u.vm.Alike U.vm) (h : vx_L C n d A u H) : vx_L C n d A U H := by
  obtain ⟨c, k, i, f, a, cell, h1, h2, h3, h4, h5, h6, h7, h8, h9, h10⟩ := h
  obtain ⟨k', hi', he⟩ := State.fieldFound?_setVm hvm h2
  exact ⟨c, k', i, f, a, cell, by rw [hvm.findClass]; exact h1, hi', h3, by rw [he]; exact h4, h5, h6, h7, h8, by rw [he]; exact h9, h10⟩
theorem vx_L.kept {C n d : String} {A : Nat → Prop} {U : State} {H H1 : Heap} (h : vx_L C n d A U H) (hq : ∀ a : Nat, a < H.size → ¬ A a → H1[a]? = H[a]?) : vx_L C n d A U H1 := by
  obtain ⟨c, k, i, f, a, cell, h1, h2, h3, h4, h5, h6, h7, h8, h9, h10⟩ := h
  exact ⟨c, k, i, f, a, cell, h1, h2, h3, h4, by rw [hq a (Array.getElem?_eq_some_iff.mp h5).1 h10]; exact h5, h6, h7, h8, h9, h10⟩
theorem vx_L.narrow {C n d : String} {A B : Nat → Prop} {U : State} {H : Heap} (h : vx_L C n d A U H) (hAB : ∀ q, B q → A q) : vx_L C n d B U H := by
  obtain ⟨c, k, i, f, a, cell, h1, h2, h3, h4, h5, h6, h7, h8, h9, h10⟩ := h
  exact ⟨c, k, i, f, a, cell, h1, h2, h3, h4, h5, h6, h7, h8, h9, fun z => h10 (hAB _ z)⟩
theorem vx_L.word {C n d : String} {A : Nat → Prop} {s : State} {args : Array Value} (h : vx_L C n d A s s.heap) : (Cond.laysStatic C n d).before args s = true := by
  obtain ⟨c, k, i, f, a, cell, h1, h2, h3, h4, h5, h6, h7, h8, h9, -⟩ := h
  show (Cond.laysStatic C n d).holds args s none s [] = true
  exact Cond.laysStatic_of h1 h2 h3 h4 h5 h6 h7 h8 h9
/-- .. and what it holds: null or some reference -/
def vx_Zq (C n d : String) (A : Nat → Prop) (U : State) (H : Heap) : Prop := va_Zq C n d A U H ∧ vx_L C n d A U H
theorem vx_Zq.moved {C n d : String} {A : Nat → Prop} {u U : State} {H : Heap} (hvm : u.vm.Alike U.vm) (h : vx_Zq C n d A u H) : vx_Zq C n d A U H := ⟨va_Zq.moved hvm h.1, vx_L.moved hvm h.2⟩
theorem vx_Zq.kept {C n d : String} {A : Nat → Prop} {U : State} {H H1 : Heap} (h : vx_Zq C n d A U H) (hq : ∀ a : Nat, a < H.size → ¬ A a → H1[a]? = H[a]?) : vx_Zq C n d A U H1 := ⟨va_Zq.kept h.1 hq, vx_L.kept h.2 hq⟩
theorem vx_Zq.narrow {C n d : String} {A B : Nat → Prop} {U : State} {H : Heap} (h : vx_Zq C n d A U H) (hAB : ∀ q, B q → A q) : vx_Zq C n d B U H := ⟨va_Zq.narrow h.1 hAB, vx_L.narrow h.2 hAB⟩
theorem vx_Zqof {args : Array Value} {s : State} {C n d : String} {A : Nat → Prop} (hl : (Cond.laysStatic C n d).before args s = true) (hini : (Cond.initialized C).before args s = true) (h : (Cond.isRef (.static C n d)).before args s = true) (hA : ∀ a : Nat, a < s.heap.size → ¬ A a) : vx_Zq C n d A s s.heap := by
  refine ⟨va_Zqof hl hini h hA, ?_⟩
  obtain ⟨c, k, i, f, a, cell, h1, h2, h3, h4, h5, h6, h7, h8, h9⟩ := Cond.laysStatic_spec hl
  exact ⟨c, k, i, f, a, cell, h1, h2, h3, h4, h5, h6, h7, h8, h9, hA a (Array.getElem?_eq_some_iff.mp h5).1⟩
theorem vx_isRef {C n d : String} {v : Value} {A : Nat → Prop} {s : State} {args : Array Value} (h : va_Z C n d v A s s.heap) (hv : v.isRef = true) : (Cond.isRef (.static C n d)).before args s = true := by
  obtain ⟨cf, kf, fi, f, a, cell, h1, h2, h3, h4, h5, h6, h7, -⟩ := h
  have he : (Term.static C n d).eval args s none [] s = some v := by
    simp [Term.eval, State.fieldNamed?, h1, h2, h4, h5, h6, h7]
  simp only [Cond.before, Cond.holds, Cond.value, he]
  cases v <;> simp_all [Value.isRef]
theorem vx_isRefq {C n d : String} {A : Nat → Prop} {s : State} {args : Array Value} (h : va_Zq C n d A s s.heap) : (Cond.isRef (.static C n d)).before args s = true := by
  rcases h with h | ⟨t, h⟩
  · exact vx_isRef h rfl
  · exact vx_isRef h rfl
/-- the same frame, seen from here: as if the method were called anew in this heap -/
theorem vx_rebase {T : State} (X : Stand p l e R s m args below meth c T locs cells slots) {R' : Room} (hf : R'.frames ≤ R.frames) (hl : R'.locals ≤ R.locals) (hc : cells + R'.cells ≤ R.cells) (hs : slots + R'.slots ≤ R.slots) :
    Stand p l e R' ((T.setVm s.vm).setFrames (.invoking m args :: below)) m args below meth c T [] 0 0 := by
  have htop : (T.setVm s.vm).topJava?.isSome := X.here.top
  have hF : ((T.setVm s.vm).setFrames (.invoking m args :: below)).frames = .invoking m args :: below := State.frames_setFrames _ (State.cur_lt_of_top htop)
  obtain ⟨g₀, hg0⟩ := Option.isSome_iff_exists.mp htop
  obtain ⟨r, hr⟩ := State.topJava?_eq_some.mp hg0
  have hl9 : e.platform.stackLimits (T.setVm s.vm).me = e.platform.stackLimits s.me := X.limits
  have hb9 : (T.setVm s.vm).me.stackBytes = s.me.stackBytes := X.bytes
  refine ⟨X.admits, X.cas, X.clock, hF, ?_, X.hears, X.method, X.code, X.here, X.tail, X.warmed, ?_, ?_, ?_⟩
  · have h := X.room
    have hU : ((T.setVm s.vm).setFrames (.invoking m args :: below)).localsInUse = s.localsInUse := by
      rw [State.localsInUse_invoking hF (meth := meth) (c := c) X.method X.code, State.localsInUse_invoking X.frames X.method X.code]
    simp only [State.hasRoom, Bool.and_eq_true, decide_eq_true_eq] at h ⊢
    obtain ⟨⟨⟨⟨h1, h2, h3, h4, h5, h6⟩, h7⟩, h8⟩, h9⟩ := h
    rw [X.frames, List.length_cons] at h2 h3
    have q1 := X.heapSize
    have q2 := X.used
    simp only [hF, hU, List.length_cons, State.stackLimits_setFrames, State.stackBytes_setFrames, hl9, hb9]
    refine ⟨⟨⟨⟨by omega, by omega, by omega, by omega, by omega, h6⟩, ?_⟩, ?_⟩, X.book⟩
    · show T.heap.size + R'.cells ≤ e.platform.maxCells
      omega
    · show T.slotsUsed + R'.slots ≤ e.platform.maxSlots
      omega
  · rw [State.stackLimits_setFrames]; rfl
  · rw [State.stackBytes_setFrames]; rfl
  · refine ⟨?_, Nat.le_refl _, Nat.le_refl _, ?_, ?_, fun a c9 h9 => ⟨c9, h9, rfl, rfl, fun _ _ => rfl⟩⟩
    · obtain ⟨t, ht, -⟩ := State.frames_cons hr
      show T.setVm s.vm = { ((T.setVm s.vm).setFrames (.invoking m args :: below)).setFrames (T.setVm s.vm).frames with heap := T.heap, slotsUsed := T.slotsUsed }
      rw [State.setFrames_setFrames, State.setFrames_self ht]
      rfl
    · show T.slotsUsed = T.slotsUsed + ((T.heap.toList.drop T.heap.size).map (·.slots.size)).sum
      rw [List.drop_eq_nil_of_le (Nat.le_of_eq Array.length_toList)]
      rfl
    · show ((T.heap.toList.drop T.heap.size).map (·.slots.size)).sum ≤ 0
      rw [List.drop_eq_nil_of_le (Nat.le_of_eq Array.length_toList)]
      exact Nat.le_refl _
/-- 'throw new E()': new; dup; invokespecial; athrow -/
theorem vx_throw0 {cc : ByteArray} {pc : Nat} (hexec : p.tables.exec = Jvm.exec) (hb : c.code = cc) (hl : l.stackTraces = false) {own cls : String} {names : List String} {ik ic mc ms : Nat} {A : Nat → Prop}
    (hown : s.vm.findClass own = some m.cls) (hcls : Bundle.fit cls = true) (hnames : ∀ n ∈ names, Bundle.fit n = true)
    (hk : (Cond.classLink own ik cls).before args s = true) (hini : (Cond.initialized cls).before args s = true) (hat : ∀ w ∈ vx_at0 own ic cls names, w.before args s = true)
    (hgood : ∀ w ∈ Cond.classLink own ik cls :: Cond.initialized cls :: vx_at0 own ic cls names, vx_ot w = true)
    (hU : vx_Zq Bundle.tN "UNASSIGNED_STACK" Bundle.steD A s s.heap) (hN : vx_Zq Bundle.tN "SUPPRESSED_SENTINEL" Bundle.listD A s s.heap) (hS : va_S A s.heap H locs) (hsize : ls.size = c.maxLocals)
    (d0 : decode cc pc = .ok (.new ik, 3)) (d3 : decode cc (pc + 3) = .ok (.dup, 1)) (d4 : decode cc (pc + 4) = .ok (.invokespecial ic, 3)) (d7 : decode cc (pc + 7) = .ok (.athrow, 1))
    (hout : ∀ x ∈ c.exceptionTable.toList, covers x (pc + 7) = false)
    (hRframes : names.length + 3 < R.frames) (hRlocals : (rest.map fun v => v.category).sum + (13 * (names.length + 1) + 42) ≤ R.locals) (hRcells : cells + 1 ≤ R.cells) (hRslots : slots + 6 ≤ R.slots) (hlocks : meth.locks = false)
    (hx : ∀ t : State, s.vm.Alike t.vm → H.size ≤ t.heap.size → (∀ q : Nat, q < H.size → t.heap[q]? = H[q]?) → XC cls s t)
    (hf : ∀ z ∈ locs, free z.base) (hc : cells + 1 ≤ mc) (hs : slots + 6 ≤ ms) :
    W p l e R s m args below meth c H locs cells slots (vx_MQ below Qc XC args s mc ms free) (F0 m pc ls rest) := by
  intro T hT X
  have htr : e.platform.stackTraces = false := (show e.platform.stackTraces = l.stackTraces by rw [X.admits.platform]).trans hl
  have Y := vx_rebase X (R' := { frames := R.frames, locals := R.locals, cells := 1, slots := 6 }) (Nat.le_refl _) (Nat.le_refl _) hRcells hRslots
  obtain ⟨s', hA⟩ : ∃ z, z = (T.setVm s.vm).setFrames (.invoking m args :: below) := ⟨_, rfl⟩
  rw [← hA] at Y
  have hvm : s'.vm = s.vm := by rw [hA]; rfl
  have hhp : s'.heap = H := by rw [hA]; exact hT
  have hW0 : s.WarmedH s'.vm := by rw [hvm]; exact State.WarmedH.refl s
  have hat' : ∀ w ∈ vx_at0 own ic cls names, w.before args s' = true := fun w hw => vx_ot_at hW0 hvm.symm (hgood w (List.mem_cons_of_mem _ (List.mem_cons_of_mem _ hw))) (hat w hw)
  have hk' : (Cond.classLink own ik cls).before args s' = true := vx_ot_at hW0 hvm.symm (hgood _ List.mem_cons_self) hk
  have hini' : (Cond.initialized cls).before args s' = true := vx_ot_at hW0 hvm.symm (hgood _ (List.mem_cons_of_mem _ List.mem_cons_self)) hini
  have hU' : vx_Zq Bundle.tN "UNASSIGNED_STACK" Bundle.steD A s' s'.heap := by rw [hhp]; exact vx_Zq.moved hW0.alike (hU.kept hS.2.1)
  have hN' : vx_Zq Bundle.tN "SUPPRESSED_SENTINEL" Bundle.listD A s' s'.heap := by rw [hhp]; exact vx_Zq.moved hW0.alike (hN.kept hS.2.1)
  have h : ∀ w ∈ Bundle.ownAtoms0 own ic cls names, w.before args s' = true := vx_own hat' (vx_isRefq hU'.1) (vx_isRefq hN'.1) hU'.2.word hN'.2.word
  have hown' : s'.vm.findClass own = some m.cls := by rw [hvm]; exact hown
  have hins : (Cond.instantiable cls 6).before args s' = true := h _ (by simp [Bundle.ownAtoms0])
  obtain ⟨vm₁, cX, kX, hfX, hkX, -, -, X₁, st1⟩ := Y.newCold hexec (own := own) (C := cls) (index := ik) (n := 6) hown' hk' hins hini'
    (g := F0 m pc ls rest) rfl (by rw [hb]; exact d0) (Nat.le_refl _) (Nat.le_refl _)
  generalize hT1 : (T.setVm vm₁).pushCell { cls := cX, slots := kX.instanceTypes.map defaultValue, vm := .none } = T1 at X₁ st1
  have hcat : (Value.ref T.heap.size).category = 1 := rfl
  have hcellA : T1.heap[T.heap.size]? = some (freshCell cX kX) := by rw [← hT1]; exact State.heap_pushCell_size _ _
  have d3' : decode c.code (pc + 3) = .ok (.dup, 1) := by rw [hb]; exact d3
  obtain ⟨U, hsteps, hrun, hend, hW, hsame, ce, hce, hO⟩ := X₁.ctorThrow0 hexec htr (own := own) (cls := cls) (names := names) (ic := ic) hown' hcls hnames h (fun x hx => nomatch hx) hfX hkX hcellA (by rw [hhp, hT]; exact Nat.le_refl _)
    (g := { method := m, pc := pc + 4, locals := ls, stack := .ref T.heap.size :: .ref T.heap.size :: rest, locked := none }) rfl hsize rfl rfl (rest := rest) rfl
    (by rw [hb]; exact d4) (by rw [hb]; exact d7) hout hRframes (by simp only [List.map_cons, List.sum_cons, hcat]; omega) hlocks
  obtain ⟨f1, f2⟩ := vx_frame hsame
  rw [hhp] at f1 f2
  have hWs : s.WarmedH U.vm := State.WarmedH.trans hW0 hW
  have hcl : s.vm.findClass cls = some ce.cls := by
    have h9 := hO.cls
    rw [hvm] at h9
    exact h9
  have hall : s.sameButNew ({ U with vm := s.vm } : State) locs mc ms := by
    subst hA
    obtain ⟨e1, e2⟩ := hsame
    rw [State.setFrames_setFrames] at e1
    have h2 : (T.setVm s.vm).sameButNew ({ U with vm := s.vm } : State) [] (0 + 1) (0 + 6) := ⟨e1, e2⟩
    have h3 := X.same.trans h2
    rw [List.append_nil] at h3
    exact h3.mono hc hs
  refine ⟨U, ?_, .threw T.heap.size, hrun, hend, Or.inr ⟨T.heap.size, rfl, cls, ce, locs, hx U hWs.alike f1 (fun q hq => f2 q hq (fun z hz => nomatch hz)), hce, hO.vm, hcl, hWs, hall, hf⟩⟩
  refine st1 _ ?_
  show Steps p.tables e below (T1.setTop { method := m, pc := pc + 3, locals := ls, stack := .ref T.heap.size :: rest, locked := none }) _
  jvm_step X₁.here [X₁.here.top, hexec, d3', Value.category]
  exact hsteps
/-- 'throw new E("text")': new; dup; ldc; invokespecial; athrow -/
theorem vx_throwS {cc : ByteArray} {pc : Nat} (hexec : p.tables.exec = Jvm.exec) (hb : c.code = cc) (hl : l.stackTraces = false) {own cls text : String} {names : List String} {ik is ic mc ms sa : Nat} {A : Nat → Prop}
    (hown : s.vm.findClass own = some m.cls) (hcls : Bundle.fit cls = true) (hnames : ∀ n ∈ names, Bundle.fit n = true)
    (hk : (Cond.classLink own ik cls).before args s = true) (hini : (Cond.initialized cls).before args s = true) (hstr : vk_R own is text sa s) (hat : ∀ w ∈ vx_atS own ic cls names, w.before args s = true)
    (hgood : ∀ w ∈ Cond.classLink own ik cls :: Cond.initialized cls :: vx_atS own ic cls names, vx_ot w = true)
    (hU : vx_Zq Bundle.tN "UNASSIGNED_STACK" Bundle.steD A s s.heap) (hN : vx_Zq Bundle.tN "SUPPRESSED_SENTINEL" Bundle.listD A s s.heap) (hS : va_S A s.heap H locs) (hsize : ls.size = c.maxLocals)
    (d0 : decode cc pc = .ok (.new ik, 3)) (d3 : decode cc (pc + 3) = .ok (.dup, 1)) (d4 : decode cc (pc + 4) = .ok (.ldc is, 2)) (d6 : decode cc (pc + 6) = .ok (.invokespecial ic, 3)) (d9 : decode cc (pc + 9) = .ok (.athrow, 1))
    (hout : ∀ x ∈ c.exceptionTable.toList, covers x (pc + 9) = false)
    (hRframes : names.length + 3 < R.frames) (hRlocals : (rest.map fun v => v.category).sum + (13 * (names.length + 1) + 43) ≤ R.locals) (hRcells : cells + 1 ≤ R.cells) (hRslots : slots + 6 ≤ R.slots) (hlocks : meth.locks = false)
    (hx : ∀ t : State, s.vm.Alike t.vm → H.size ≤ t.heap.size → (∀ q : Nat, q < H.size → t.heap[q]? = H[q]?) → XC cls s t)
    (hf : ∀ z ∈ locs, free z.base) (hc : cells + 1 ≤ mc) (hs : slots + 6 ≤ ms) :
    W p l e R s m args below meth c H locs cells slots (vx_MQ below Qc XC args s mc ms free) (F0 m pc ls rest) := by
  intro T hT X
  have htr : e.platform.stackTraces = false := (show e.platform.stackTraces = l.stackTraces by rw [X.admits.platform]).trans hl
  have Y := vx_rebase X (R' := { frames := R.frames, locals := R.locals, cells := 1, slots := 6 }) (Nat.le_refl _) (Nat.le_refl _) hRcells hRslots
  obtain ⟨s', hA⟩ : ∃ z, z = (T.setVm s.vm).setFrames (.invoking m args :: below) := ⟨_, rfl⟩
  rw [← hA] at Y
  have hvm : s'.vm = s.vm := by rw [hA]; rfl
  have hhp : s'.heap = H := by rw [hA]; exact hT
  have hW0 : s.WarmedH s'.vm := by rw [hvm]; exact State.WarmedH.refl s
  have hat' : ∀ w ∈ vx_atS own ic cls names, w.before args s' = true := fun w hw => vx_ot_at hW0 hvm.symm (hgood w (List.mem_cons_of_mem _ (List.mem_cons_of_mem _ hw))) (hat w hw)
  have hk' : (Cond.classLink own ik cls).before args s' = true := vx_ot_at hW0 hvm.symm (hgood _ List.mem_cons_self) hk
  have hini' : (Cond.initialized cls).before args s' = true := vx_ot_at hW0 hvm.symm (hgood _ (List.mem_cons_of_mem _ List.mem_cons_self)) hini
  have hU' : vx_Zq Bundle.tN "UNASSIGNED_STACK" Bundle.steD A s' s'.heap := by rw [hhp]; exact vx_Zq.moved hW0.alike (hU.kept hS.2.1)
  have hN' : vx_Zq Bundle.tN "SUPPRESSED_SENTINEL" Bundle.listD A s' s'.heap := by rw [hhp]; exact vx_Zq.moved hW0.alike (hN.kept hS.2.1)
  have h : ∀ w ∈ Bundle.ownAtoms own ic cls names, w.before args s' = true := vx_own hat' (vx_isRefq hU'.1) (vx_isRefq hN'.1) hU'.2.word hN'.2.word
  have hown' : s'.vm.findClass own = some m.cls := by rw [hvm]; exact hown
  have hins : (Cond.instantiable cls 6).before args s' = true := h _ (by simp [Bundle.ownAtoms])
  obtain ⟨vm₁, cX, kX, hfX, hkX, -, -, X₁, st1⟩ := Y.newCold hexec (own := own) (C := cls) (index := ik) (n := 6) hown' hk' hins hini'
    (g := F0 m pc ls rest) rfl (by rw [hb]; exact d0) (Nat.le_refl _) (Nat.le_refl _)
  generalize hT1 : (T.setVm vm₁).pushCell { cls := cX, slots := kX.instanceTypes.map defaultValue, vm := .none } = T1 at X₁ st1
  have hcat : (Value.ref T.heap.size).category = 1 := rfl
  have hcellA : T1.heap[T.heap.size]? = some (freshCell cX kX) := by rw [← hT1]; exact State.heap_pushCell_size _ _
  have d3' : decode c.code (pc + 3) = .ok (.dup, 1) := by rw [hb]; exact d3
  have d4' : decode c.code (pc + 4) = .ok (.ldc is, 2) := by rw [hb]; exact d4
  have hstr' : vk_R own is text sa s' := vk_R.warm hW0 hstr
  obtain ⟨U, hsteps, hrun, hend, hW, hsame, ce, hce, hO⟩ := X₁.ctorThrowS hexec htr (own := own) (cls := cls) (names := names) (ic := ic) hown' hcls hnames h (fun x hx => nomatch hx) hfX hkX hcellA (by rw [hhp, hT]; exact Nat.le_refl _) (msg := .ref sa) rfl
    (g := { method := m, pc := pc + 6, locals := ls, stack := .ref sa :: .ref T.heap.size :: .ref T.heap.size :: rest, locked := none }) rfl hsize rfl rfl (rest := rest) rfl
    (by rw [hb]; exact d6) (by rw [hb]; exact d9) hout hRframes (by simp only [List.map_cons, List.sum_cons, hcat]; omega) hlocks
  obtain ⟨f1, f2⟩ := vx_frame hsame
  rw [hhp] at f1 f2
  have hWs : s.WarmedH U.vm := State.WarmedH.trans hW0 hW
  have hcl : s.vm.findClass cls = some ce.cls := by
    have h9 := hO.cls
    rw [hvm] at h9
    exact h9
  have hall : s.sameButNew ({ U with vm := s.vm } : State) locs mc ms := by
    subst hA
    obtain ⟨e1, e2⟩ := hsame
    rw [State.setFrames_setFrames] at e1
    have h2 : (T.setVm s.vm).sameButNew ({ U with vm := s.vm } : State) [] (0 + 1) (0 + 6) := ⟨e1, e2⟩
    have h3 := X.same.trans h2
    rw [List.append_nil] at h3
    exact h3.mono hc hs
  refine ⟨U, ?_, .threw T.heap.size, hrun, hend, Or.inr ⟨T.heap.size, rfl, cls, ce, locs, hx U hWs.alike f1 (fun q hq => f2 q hq (fun z hz => nomatch hz)), hce, hO.vm, hcl, hWs, hall, hf⟩⟩
  refine st1 _ ?_
  show Steps p.tables e below (T1.setTop { method := m, pc := pc + 3, locals := ls, stack := .ref T.heap.size :: rest, locked := none }) _
  jvm_step X₁.here [X₁.here.top, hexec, d3', Value.category]
  exact X₁.ldcString hexec (own := own) (text := text) (index := is) (a := sa) hown' hstr'.1 hstr'.2
    (g := { method := m, pc := pc + 4, locals := ls, stack := .ref T.heap.size :: .ref T.heap.size :: rest, locked := none }) rfl d4' _ hsteps
/-- 'throw new E("text")', the text by a wide index -/
theorem vx_throwSW {cc : ByteArray} {pc : Nat} (hexec : p.tables.exec = Jvm.exec) (hb : c.code = cc) (hl : l.stackTraces = false) {own cls text : String} {names : List String} {ik is ic mc ms sa : Nat} {A : Nat → Prop}
    (hown : s.vm.findClass own = some m.cls) (hcls : Bundle.fit cls = true) (hnames : ∀ n ∈ names, Bundle.fit n = true)
    (hk : (Cond.classLink own ik cls).before args s = true) (hini : (Cond.initialized cls).before args s = true) (hstr : vk_R own is text sa s) (hat : ∀ w ∈ vx_atS own ic cls names, w.before args s = true)
    (hgood : ∀ w ∈ Cond.classLink own ik cls :: Cond.initialized cls :: vx_atS own ic cls names, vx_ot w = true)
    (hU : vx_Zq Bundle.tN "UNASSIGNED_STACK" Bundle.steD A s s.heap) (hN : vx_Zq Bundle.tN "SUPPRESSED_SENTINEL" Bundle.listD A s s.heap) (hS : va_S A s.heap H locs) (hsize : ls.size = c.maxLocals)
    (d0 : decode cc pc = .ok (.new ik, 3)) (d3 : decode cc (pc + 3) = .ok (.dup, 1)) (d4 : decode cc (pc + 4) = .ok (.ldc_w is, 3)) (d7 : decode cc (pc + 7) = .ok (.invokespecial ic, 3)) (d10 : decode cc (pc + 10) = .ok (.athrow, 1))
    (hout : ∀ x ∈ c.exceptionTable.toList, covers x (pc + 10) = false)
    (hRframes : names.length + 3 < R.frames) (hRlocals : (rest.map fun v => v.category).sum + (13 * (names.length + 1) + 43) ≤ R.locals) (hRcells : cells + 1 ≤ R.cells) (hRslots : slots + 6 ≤ R.slots) (hlocks : meth.locks = false)
    (hx : ∀ t : State, s.vm.Alike t.vm → H.size ≤ t.heap.size → (∀ q : Nat, q < H.size → t.heap[q]? = H[q]?) → XC cls s t)
    (hf : ∀ z ∈ locs, free z.base) (hc : cells + 1 ≤ mc) (hs : slots + 6 ≤ ms) :
    W p l e R s m args below meth c H locs cells slots (vx_MQ below Qc XC args s mc ms free) (F0 m pc ls rest) := by
  intro T hT X
  have htr : e.platform.stackTraces = false := (show e.platform.stackTraces = l.stackTraces by rw [X.admits.platform]).trans hl
  have Y := vx_rebase X (R' := { frames := R.frames, locals := R.locals, cells := 1, slots := 6 }) (Nat.le_refl _) (Nat.le_refl _) hRcells hRslots
  obtain ⟨s', hA⟩ : ∃ z, z = (T.setVm s.vm).setFrames (.invoking m args :: below) := ⟨_, rfl⟩
  rw [← hA] at Y
  have hvm : s'.vm = s.vm := by rw [hA]; rfl
  have hhp : s'.heap = H := by rw [hA]; exact hT
  have hW0 : s.WarmedH s'.vm := by rw [hvm]; exact State.WarmedH.refl s
  have hat' : ∀ w ∈ vx_atS own ic cls names, w.before args s' = true := fun w hw => vx_ot_at hW0 hvm.symm (hgood w (List.mem_cons_of_mem _ (List.mem_cons_of_mem _ hw))) (hat w hw)
  have hk' : (Cond.classLink own ik cls).before args s' = true := vx_ot_at hW0 hvm.symm (hgood _ List.mem_cons_self) hk
  have hini' : (Cond.initialized cls).before args s' = true := vx_ot_at hW0 hvm.symm (hgood _ (List.mem_cons_of_mem _ List.mem_cons_self)) hini
  have hU' : vx_Zq Bundle.tN "UNASSIGNED_STACK" Bundle.steD A s' s'.heap := by rw [hhp]; exact vx_Zq.moved hW0.alike (hU.kept hS.2.1)
  have hN' : vx_Zq Bundle.tN "SUPPRESSED_SENTINEL" Bundle.listD A s' s'.heap := by rw [hhp]; exact vx_Zq.moved hW0.alike (hN.kept hS.2.1)
  have h : ∀ w ∈ Bundle.ownAtoms own ic cls names, w.before args s' = true := vx_own hat' (vx_isRefq hU'.1) (vx_isRefq hN'.1) hU'.2.word hN'.2.word
  have hown' : s'.vm.findClass own = some m.cls := by rw [hvm]; exact hown
  have hins : (Cond.instantiable cls 6).before args s' = true := h _ (by simp [Bundle.ownAtoms])
  obtain ⟨vm₁, cX, kX, hfX, hkX, -, -, X₁, st1⟩ := Y.newCold hexec (own := own) (C := cls) (index := ik) (n := 6) hown' hk' hins hini'
    (g := F0 m pc ls rest) rfl (by rw [hb]; exact d0) (Nat.le_refl _) (Nat.le_refl _)
  generalize hT1 : (T.setVm vm₁).pushCell { cls := cX, slots := kX.instanceTypes.map defaultValue, vm := .none } = T1 at X₁ st1
  have hcat : (Value.ref T.heap.size).category = 1 := rfl
  have hcellA : T1.heap[T.heap.size]? = some (freshCell cX kX) := by rw [← hT1]; exact State.heap_pushCell_size _ _
  have d3' : decode c.code (pc + 3) = .ok (.dup, 1) := by rw [hb]; exact d3
  have d4' : decode c.code (pc + 4) = .ok (.ldc_w is, 3) := by rw [hb]; exact d4
  have hstr' : vk_R own is text sa s' := vk_R.warm hW0 hstr
  obtain ⟨U, hsteps, hrun, hend, hW, hsame, ce, hce, hO⟩ := X₁.ctorThrowS hexec htr (own := own) (cls := cls) (names := names) (ic := ic) hown' hcls hnames h (fun x hx => nomatch hx) hfX hkX hcellA (by rw [hhp, hT]; exact Nat.le_refl _) (msg := .ref sa) rfl
    (g := { method := m, pc := pc + 7, locals := ls, stack := .ref sa :: .ref T.heap.size :: .ref T.heap.size :: rest, locked := none }) rfl hsize rfl rfl (rest := rest) rfl
    (by rw [hb]; exact d7) (by rw [hb]; exact d10) hout hRframes (by simp only [List.map_cons, List.sum_cons, hcat]; omega) hlocks
  obtain ⟨f1, f2⟩ := vx_frame hsame
  rw [hhp] at f1 f2
  have hWs : s.WarmedH U.vm := State.WarmedH.trans hW0 hW
  have hcl : s.vm.findClass cls = some ce.cls := by
    have h9 := hO.cls
    rw [hvm] at h9
    exact h9
  have hall : s.sameButNew ({ U with vm := s.vm } : State) locs mc ms := by
    subst hA
    obtain ⟨e1, e2⟩ := hsame
    rw [State.setFrames_setFrames] at e1
    have h2 : (T.setVm s.vm).sameButNew ({ U with vm := s.vm } : State) [] (0 + 1) (0 + 6) := ⟨e1, e2⟩
    have h3 := X.same.trans h2
    rw [List.append_nil] at h3
    exact h3.mono hc hs
  refine ⟨U, ?_, .threw T.heap.size, hrun, hend, Or.inr ⟨T.heap.size, rfl, cls, ce, locs, hx U hWs.alike f1 (fun q hq => f2 q hq (fun z hz => nomatch hz)), hce, hO.vm, hcl, hWs, hall, hf⟩⟩
  refine st1 _ ?_
  show Steps p.tables e below (T1.setTop { method := m, pc := pc + 3, locals := ls, stack := .ref T.heap.size :: rest, locked := none }) _
  jvm_step X₁.here [X₁.here.top, hexec, d3', Value.category]
  exact X₁.ldcStringW hexec (own := own) (text := text) (index := is) (a := sa) hown' hstr'.1 hstr'.2
    (g := { method := m, pc := pc + 4, locals := ls, stack := .ref T.heap.size :: .ref T.heap.size :: rest, locked := none }) rfl d4' _ hsteps
end Ends
section Bodies
variable {l : Launch}
theorem vx_ofW {y : MethodName} {ws ws' : List Cond} {rm : Room} {Pc : Array Value → State → Prop} {Qc : Array Value → State → Outcome → State → Prop} {XC : String → State → State → Prop} {mc ms : Nat} {free : Addr → Prop} {cc : ByteArray} {maxL : Nat} {ret : Option FieldType}
    (hy : plainName y.cls = true) (hw : ws = Cond.code y cc maxL ret :: ws')
    (body : ∀ p e s m args below meth c s₁, BodyLoose p l y (headSpec ws rm) cc maxL ret e s m args below meth c s₁ → c.maxLocals = maxL → (∀ x ∈ c.exceptionTable.toList, False) → Pc args s →
      W p l e (headSpec ws rm).room s m args below meth c s.heap [] 0 0 (vx_MQ below Qc XC args s mc ms free) (entryFrame m args maxL)) : vx_Met l y ws rm Pc Qc XC mc ms free := by
  refine MetFree.of_bodyS (code := cc) (maxLocals := maxL) (ret := ret) hy ?_ ?_
  · intro args s m h hn
    obtain ⟨meth, c, h1, h2, h3, h4, h5, h6, -, -⟩ := Cond.code_spec hn (atoms_spec (ws := ws) h _ (by rw [hw]; exact List.mem_cons_self))
    exact ⟨meth, c, h1, h2, h3, h4, h5, h6⟩
  · intro p e s m args below meth c s₁ B hml hP _
    have hh0 : s₁.heap = s.heap := by rw [B.state]; rfl
    have ht : ∀ x ∈ c.exceptionTable.toList, False := by
      obtain ⟨meth9, c9, h1, h2, -, -, -, -, h7, -⟩ := Cond.code_spec B.named (atoms_spec (ws := ws) B.pre _ (by rw [hw]; exact List.mem_cons_self))
      cases Option.some.inj (h1.symm.trans B.method)
      cases Option.some.inj (h2.symm.trans (Stand.of_body B).code)
      intro x hx
      rw [Array.isEmpty_iff.mp h7] at hx
      cases hx
    obtain ⟨t, a1, o, b1, b2, b3⟩ := body p e s m args below meth c s₁ B hml ht hP s₁ hh0 (Stand.of_body B)
    exact ⟨t, o, a1, b1, b2, b3⟩
/-- the table of a body with handlers -/
theorem vx_table {p : Program} {x y : MethodName} {S : Spec} {cc bytes : ByteArray} {maxL maxL' : Nat} {ret ret' : Option FieldType} {e : Env} {s s₁ : State} {m : MethodId} {args : Array Value} {below : List Frame} {meth : Method} {c : Code} {hh : List (Nat × Nat × Nat × Nat)}
    (B : BodyLoose p l y S cc maxL ret e s m args below meth c s₁) (h : (Cond.codeWith y bytes maxL' ret' hh).before args s = true) : c.exceptionTable.toList = tableOf hh := by
  obtain ⟨m9, meth9, c9, hn9, h1, h2, -, -, h6, -⟩ := Cond.codeWith_spec h
  cases Option.some.inj (hn9.symm.trans B.named)
  cases Option.some.inj (h1.symm.trans B.method)
  cases Option.some.inj (h2.symm.trans (Stand.of_body B).code)
  rw [← h6, table_eq]
end Bodies
end VXA
/-! ===== END ===== -/
/-! ===== BEGIN a static call of a method with an exception table ===== -/
section VXS
variable {p : Program} {l : Launch} {e : Env} {R : Room} {s : State} {m : MethodId} {args : Array Value} {below : List Frame} {meth : Method} {c : Code} {T : State} {H : Heap} {locs : List Loc} {cells slots : Nat}
abbrev vx_CSW (R : Room) (s : State) (args : Array Value) (own : String) (index : Nat) (y : MethodName) (bytes : ByteArray) (maxL : Nat) (ret : Option FieldType) (hh : List (Nat × Nat × Nat × Nat)) (ws : List Cond) (rm : Room) (mc ms n : Nat) : Prop :=
  (rm.cells = mc ∧ rm.slots = ms ∧ rm.frames + 1 ≤ R.frames ∧ 8 + (maxL + 11) + rm.locals ≤ R.locals ∧ (∀ w ∈ ws, ∀ (a' : Array Value) (U : State), s.WarmedH U.vm → w.before a' U = true) ∧ Cond.codeWith y bytes maxL ret hh ∈ ws) ∧
  (Cond.codeWith y bytes maxL ret hh).before args s = true ∧ (Cond.initialized y.cls).before args s = true ∧ (y.cls ≠ "java/lang/invoke/MethodHandle" ∧ y.cls ≠ "java/lang/invoke/VarHandle") ∧
  (∀ sig, parseMethodDescriptor y.desc = some sig → n = sig.parameters.length) ∧ (Cond.methodLink own index y).before args s = true ∧ (Cond.static y).before args s = true
theorem vx_cwSW {own : String} {index maxL mc ms : Nat} {y : MethodName} {bytes : ByteArray} {ret : Option FieldType} {hh : List (Nat × Nat × Nat × Nat)} {Ts ws ws' : List Cond} {rm : Room} (n : Nat) (ht : ∀ w ∈ Ts, w.before args s = true) (hT : GoodIn Ts (va_wsS own index y ws)) (hw : ws = Cond.codeWith y bytes maxL ret hh :: ws') (hrc : rm.cells = mc) (hrs : rm.slots = ms)
    (hd : y.cls ≠ "java/lang/invoke/MethodHandle" ∧ y.cls ≠ "java/lang/invoke/VarHandle" ∧ (parseMethodDescriptor y.desc).map (fun d => d.parameters.length) = some n) (hR : rm.frames + 1 ≤ R.frames ∧ 8 + (maxL + 11) + rm.locals ≤ R.locals) :
    vx_CSW R s args own index y bytes maxL ret hh ws rm mc ms n := by
  have ok : ∀ w ∈ va_wsS own index y ws, w.before args s = true := fun w h => ht w (hT w h).1
  have hG : GoodIn Ts ws := fun w h => hT w (by unfold va_wsS; exact List.mem_append_right _ h)
  have hc : Cond.codeWith y bytes maxL ret hh ∈ ws := by rw [hw]; exact List.mem_cons_self
  refine ⟨⟨hrc, hrs, hR.1, hR.2, pay_in ht hG, hc⟩, ht _ (hG _ hc).1, ok _ (by simp [va_wsS]), ⟨hd.1, hd.2.1⟩, fun sig h => ?_, ok _ (by simp [va_wsS]), ok _ (by simp [va_wsS])⟩
  have h2 := hd.2.2
  rw [h] at h2
  exact (Option.some.inj h2).symm
theorem vx_callSW (X : Stand p l e R s m args below meth c T locs cells slots) (hexec : p.tables.exec = Jvm.exec) {own : String} {index : Nat} {y : MethodName} {bytes : ByteArray} {maxL : Nat} {ret : Option FieldType} {hh : List (Nat × Nat × Nat × Nat)}
    (hown : s.vm.findClass own = some m.cls) (hlink : (Cond.methodLink own index y).before args s = true) (hstat : (Cond.static y).before args s = true) (hinit : (Cond.initialized y.cls).before args s = true)
    (hcode : (Cond.codeWith y bytes maxL ret hh).before args s = true) (hy : y.cls ≠ "java/lang/invoke/MethodHandle" ∧ y.cls ≠ "java/lang/invoke/VarHandle")
    {W9 : Nat} {Pre : Pt → Array Value → Prop} {Post : Pt → Array Value → Option Value → Pt → Prop} (hK : Back l R p e below s args y 3 W9 Pre Post)
    {g : JFrame} (hg : g.method = m) (hsize : g.locals.size = c.maxLocals) {argsL rest : List Value} (hlen : ∀ sig, parseMethodDescriptor y.desc = some sig → argsL.length = sig.parameters.length)
    (hstack : g.stack = argsL.reverse ++ rest) (hW : 2 * g.monitorRoom + (rest.map fun v => v.category).sum ≤ W9) (hdg : decode c.code g.pc = .ok (.invokestatic index, 3))
    (hpre : ∀ vm₁, s.WarmedH vm₁ → Pre ⟨T.setVm vm₁, locs, cells, slots⟩ argsL.toArray) :
    ∃ (v : Option Value) (vm₁ : Vm) (B : Pt), s.WarmedH vm₁ ∧ Stand p l e R s m args below meth c B.U B.locs B.cells B.slots ∧ Post ⟨T.setVm vm₁, locs, cells, slots⟩ argsL.toArray v B ∧
      ∀ target, Steps p.tables e below (B.U.setTop { g with pc := g.pc + 3, stack := v.toList ++ rest }) target → Steps p.tables e below (T.setTop g) target := by
  obtain ⟨mk, methM, cM, hnamed, hmethM, -, -, -, -, -, -, hsigM⟩ := Cond.codeWith_spec hcode
  have hstatic : methM.isStatic = true := Cond.static_spec hnamed hmethM hstat
  obtain ⟨kP, hkP, -⟩ := className_of_methodNamed hnamed
  have hinitP : kP.init = .initialized := Cond.initialized_spec (findClass_of_methodNamed hnamed) hkP hinit
  obtain ⟨vm₁, X₁, hstep₁⟩ := X.invokestatic hexec hown hlink hnamed hmethM hstatic hkP hinitP hy (g := g) hg (argsL := argsL) (rest := rest) (hlen _ hsigM) hstack hdg
  obtain ⟨v, B, X', hpost, hsteps⟩ := hK m meth c ⟨T.setVm vm₁, locs, cells, slots⟩ { g with stack := rest } (.invokestatic index) mk argsL.toArray X₁ hg hsize hdg hW (X₁.named hnamed) (hpre vm₁ X₁.warmed)
  exact ⟨v, vm₁, B, X₁.warmed, X', hpost, fun target h => hstep₁ _ fun acts => by rw [doInvoke_state]; exact hsteps.trans h⟩
theorem vx_runSW {y : MethodName} {bytes cc : ByteArray} {maxL nL mc ms n index : Nat} {ret : Option FieldType} {hh : List (Nat × Nat × Nat × Nat)} {ws : List Cond} {rm : Room} {Pc : Array Value → State → Prop} {Qc : Array Value → State → Outcome → State → Prop} {free : Addr → Prop} {Ts : List Cond} {own : String} {As rest : List Value} {g : JFrame}
    (S : CallFix p m c cc nL s args Ts own) (hM : Met l y ws rm Pc Qc mc ms free) (cw : vx_CSW R s args own index y bytes maxL ret hh ws rm mc ms n) (hp : PreS s H Pc As)
    (hg : g.method = m) (hn : As.length = n) (hsize : g.locals.size = nL) (hstack : g.stack = As.reverse ++ rest) (hW : 2 * g.monitorRoom + (rest.map fun v => v.category).sum ≤ 8) (hdg : decode cc g.pc = .ok (.invokestatic index, 3)) (hf : cells + mc ≤ R.cells ∧ slots + ms ≤ R.slots) :
    va_Run p l e R s m args below meth c H locs cells slots mc ms g rest (Qc As.toArray) (free) := by
  obtain ⟨⟨hrc, hrs, hfr, hlo, hws, hcw⟩, hcode, hini, hy, hlen, hl, hstt⟩ := cw
  have hK : Back l R p e below s args y 3 8 (PreOf R mc ms Pc) (PostOf Qc mc ms free) := va_backW (hh := hh) (bytes := bytes) (maxL := maxL) (ret := ret) hM hp.1 hrc hrs hfr hlo hws hcw (fun a' U hW => word_at hW (Or.inl (by first | rfl | simp [Cond.onTables, Cond.keeps, Cond.steady])) hini)
  obtain ⟨hx, hb, hml, ho, -⟩ := S
  intro T hT X
  obtain ⟨v, vm₁, ⟨U', l2, c2, s2⟩, hW₁, X', ⟨g', mk, t, L, e1, e2, hq, h1, hL, h2, h3⟩, st⟩ := vx_callSW X hx (hh := hh) (bytes := bytes) (maxL := maxL) (ret := ret) ho hl hstt hini hcode hy hK hg (hsize.trans hml.symm) (argsL := As) (rest := rest) (fun sig h => hn.trans (hlen sig h)) hstack hW (by rw [hb]; exact hdg)
    (fun vm₁ hW₁ => ⟨hf.1, hf.2, hp.2 (T.setVm vm₁) hT hW₁⟩)
  dsimp only [Pt.U, Pt.locs, Pt.cells, Pt.slots] at X' e1 e2 h1 h2 h3 st
  subst h1; subst h2; subst h3
  exact ⟨v, (T.setVm vm₁).calling g' mk As.toArray, t, U', L, hT, X', hL, e1, e2, hq, st⟩
/-- a thing of a world lies in the heap -/
theorem vx_lt {D : va_G} {cl : List vw_C} {ws : va_W} {H1 : Heap} (h : va_P D cl ws H1) {k : Nat} {q : Nat × va_E} (hk : ws[k]? = some q) : q.1 < H1.size := (h k q hk).lt
end VXS
/-! ===== END ===== -/
/-! ===== BEGIN methods with a table of their own: called by a name, returning or throwing ===== -/
section VXH
/-! vx_backW, vx_callVX, vx_callSX, vx_callVW, vx_runVW, vx_runVX, vx_runSX, vx_ofWH follow the same proofs as their sisters above (Free/Laws.lean, Shelf42/LK1.lean); vx_outP calls Shelf42/NT130.lean (outThrough). -/
section
variable {l : Launch} {R : Room} {p : Program} {e : Env} {below : List Frame} {s : State} {sargs : Array Value} {y : MethodName} {len W9 : Nat}
theorem vx_backW {ws : List Cond} {rm : Room} {Pc : Array Value → State → Prop} {Qc : Array Value → State → Outcome → State → Prop} {XC : String → State → State → Prop} {mc ms : Nat} {free : Addr → Prop} {bytes : ByteArray} {maxL : Nat} {ret : Option FieldType} {hh : List (Nat × Nat × Nat × Nat)}
    (hM : vx_Met l y ws rm Pc Qc XC mc ms free) (hblind : FrameBlind Pc) (hrc : rm.cells = mc) (hrs : rm.slots = ms)
    (hframes : rm.frames + 1 ≤ R.frames) (hlocals : W9 + (maxL + 11) + rm.locals ≤ R.locals)
    (hws : ∀ w ∈ ws, ∀ a' U, s.WarmedH U.vm → w.before a' U = true) (hcode : Cond.codeWith y bytes maxL ret hh ∈ ws) (hinit : ∀ a' U, s.WarmedH U.vm → (Cond.initialized y.cls).before a' U = true) :
    vx_Back l R p e below s sargs y len W9 (PreOf R mc ms Pc) (PostOf Qc mc ms free) (vx_Post XC mc ms free) := by
  intro m meth c A g ig mk a X hg hsize hdg hW hn hp
  have h1 : (headSpec ws rm).pre.before a A.U = true := atoms_intro fun w hw => hws w hw _ _ X.warmed
  have h2 : (Cond.codeWith y bytes maxL ret hh).before a A.U = true := hws _ hcode _ _ X.warmed
  have h3 : (Cond.initialized y.cls).before a A.U = true := hinit _ _ X.warmed
  have h4 : A.cells + (headSpec ws rm).room.cells ≤ R.cells := by rw [show (headSpec ws rm).room.cells = mc from hrc]; exact hp.1
  have h5 : A.slots + (headSpec ws rm).room.slots ≤ R.slots := by rw [show (headSpec ws rm).room.slots = ms from hrs]; exact hp.2.1
  have hPc : Pc a (A.U.calling g mk a) := hblind _ _ _ _ hp.2.2
  obtain ⟨U, Ls, c0, s0⟩ := A
  dsimp only [Pt.U, Pt.locs, Pt.cells, Pt.slots] at h1 h2 h3 h4 h5 X hn hPc ⊢
  obtain ⟨m9, methY, cY, hn9, hmY, hcY, -, hlY, -⟩ := Cond.codeWith_spec h2
  cases Option.some.inj (hn9.symm.trans hn)
  obtain ⟨kY, hkY, -⟩ := className_of_methodNamed hn
  have hinitY : kY.init = .initialized := Cond.initialized_spec (findClass_of_methodNamed hn) hkY h3
  have h : At U g.method c below := by rw [hg]; exact X.here
  have hlocals9 : W9 + (maxL + 11) + (headSpec ws rm).room.locals ≤ R.locals := hlocals
  have happ : (headSpec ws rm).appliesLoose y e.platform (U.calling g mk a) = true :=
    Spec.appliesLoose_calling (g := g) h hdg hn hkY hinitY
      (X.room_calling (g := g) (R' := (headSpec ws rm).room) hsize hmY hcY hframes (by rw [hlY]; omega) h4 h5) h1
  obtain ⟨mid, hmid⟩ := h.above
  have hfr : (U.setTop g).frames = (.java g :: mid) ++ below := by rw [State.frames_setTop' g h.top, hmid]; rfl
  obtain ⟨o, s₂, hsteps, -, hend, hq⟩ := Steps.callFree hM p X.admits X.cas X.clock (acts := []) hfr happ hPc trivial
  have hq' : vx_Q Qc XC mc ms free a (U.calling g mk a) o s₂ := hq
  rw [State.frames_setTop' g h.top] at hend
  obtain ⟨g₀, hg0⟩ := Option.isSome_iff_exists.mp h.top
  obtain ⟨r, hr⟩ := State.topJava?_eq_some.mp hg0
  have hr' : (({ U with heap := s₂.heap, slotsUsed := s₂.slotsUsed } : State).setVm s₂.vm).frames = .java g₀ :: r := hr
  rcases hq' with ⟨hqc, L, hfe, hL⟩ | ⟨q, rfl, E, ce, L, hx, hce, hcv, hcl, hW₂, hsm, hL⟩
  · obtain ⟨⟨v, rfl⟩, hW₂, e2, q2, q3, q4, q5, q6⟩ := id hfe
    have e3 : s₂ = ({ (U.calling g mk a).setFrames s₂.frames with heap := s₂.heap, slotsUsed := s₂.slotsUsed } : State).setVm s₂.vm := by
      have : s₂ = ({ s₂ with vm := (U.calling g mk a).vm } : State).setVm s₂.vm := rfl
      rw [e2] at this
      exact this
    obtain ⟨c₂, i₂, len₂, hc₂, hd₂, hf₂⟩ := hend
    have hW' : U.WarmedH s₂.vm := hW₂
    have hcc : c₂ = c := by
      have h1 : s₂.code? g.method = U.code? g.method := by
        rw [State.code?_eq, State.code?_eq, hW'.alike.method?]
      exact Option.some.inj (hc₂.symm.trans (h1.trans h.code))
    subst hcc
    have hlen : len₂ = len := by rw [hdg] at hd₂; cases hd₂; rfl
    subst hlen
    have hs₂ : s₂ = (({ U with heap := s₂.heap, slotsUsed := s₂.slotsUsed } : State).setVm s₂.vm).setTop { g with pc := g.pc + len₂, stack := v.toList ++ g.stack } := by
      refine e3.trans ?_
      rw [hf₂, State.calling_eq h.top, State.setFrames_setFrames, State.setTop_of_frames _ hr', hr]
      rfl
    have hsame : U.sameButNew ({ U with heap := s₂.heap, slotsUsed := s₂.slotsUsed } : State) L mc ms := by
      refine ⟨?_, q2, q3, q4, q5, q6⟩
      obtain ⟨t, ht, -⟩ := State.frames_cons hr
      show ({ U with heap := s₂.heap, slotsUsed := s₂.slotsUsed } : State) = { U.setFrames U.frames with heap := s₂.heap, slotsUsed := s₂.slotsUsed }
      rw [State.setFrames_self ht]
    subst hg
    refine Or.inl ⟨v, ⟨(({ U with heap := s₂.heap, slotsUsed := s₂.slotsUsed } : State).setVm s₂.vm), Ls ++ L, c0 + mc, s0 + ms⟩,
      ⟨X.admits, X.cas, X.clock, X.frames, X.room, X.hears, X.method, X.code, (X.here.setHeapUsed s₂.heap s₂.slotsUsed).setVm hW'.alike, X.tail, State.WarmedH.trans X.warmed hW', X.limits, X.bytes, X.same.trans (hsame.setVm s.vm)⟩,
      ⟨g, mk, s₂, L, rfl, rfl, hqc, rfl, hL, rfl, rfl⟩, ?_⟩
    show Steps p.tables e below _ ((({ U with heap := s₂.heap, slotsUsed := s₂.slotsUsed } : State).setVm s₂.vm).setTop { g with pc := g.pc + len₂, stack := v.toList ++ g.stack })
    rw [← hs₂]
    exact hsteps
  · obtain ⟨e2, q2, q3, q4, q5, q6⟩ := id hsm
    have e3 : s₂ = ({ (U.calling g mk a).setFrames s₂.frames with heap := s₂.heap, slotsUsed := s₂.slotsUsed } : State).setVm s₂.vm := by
      have : s₂ = ({ s₂ with vm := (U.calling g mk a).vm } : State).setVm s₂.vm := rfl
      rw [e2] at this
      exact this
    have hf₂ : s₂.frames = .throwing q :: .java g :: U.frames.tail := hend
    have hW' : U.WarmedH s₂.vm := hW₂
    have hs₂ : s₂ = ((({ U with heap := s₂.heap, slotsUsed := s₂.slotsUsed } : State).setVm s₂.vm).setTop g).pushFrame (.throwing q) := by
      refine e3.trans ?_
      rw [hf₂, State.calling_eq h.top, State.setFrames_setFrames, State.pushFrame, State.frames_setTop _ hr', State.setTop_of_frames _ hr', State.setFrames_setFrames, hr]
      rfl
    have hsame : U.sameButNew ({ U with heap := s₂.heap, slotsUsed := s₂.slotsUsed } : State) L mc ms := by
      refine ⟨?_, q2, q3, q4, q5, q6⟩
      obtain ⟨t, ht, -⟩ := State.frames_cons hr
      show ({ U with heap := s₂.heap, slotsUsed := s₂.slotsUsed } : State) = { U.setFrames U.frames with heap := s₂.heap, slotsUsed := s₂.slotsUsed }
      rw [State.setFrames_self ht]
    subst hg
    refine Or.inr ⟨q, ⟨(({ U with heap := s₂.heap, slotsUsed := s₂.slotsUsed } : State).setVm s₂.vm), Ls ++ L, c0 + mc, s0 + ms⟩,
      ⟨X.admits, X.cas, X.clock, X.frames, X.room, X.hears, X.method, X.code, (X.here.setHeapUsed s₂.heap s₂.slotsUsed).setVm hW'.alike, X.tail, State.WarmedH.trans X.warmed hW', X.limits, X.bytes, X.same.trans (hsame.setVm s.vm)⟩,
      ⟨g, mk, s₂, L, E, ce, rfl, rfl, hx, hce, hcv, hcl, rfl, hL, rfl, rfl⟩, ?_⟩
    show Steps p.tables e below _ (((({ U with heap := s₂.heap, slotsUsed := s₂.slotsUsed } : State).setVm s₂.vm).setTop g).pushFrame (.throwing q))
    rw [← hs₂]
    exact hsteps
end
variable {p : Program} {l : Launch} {e : Env} {R : Room} {s : State} {m : MethodId} {args : Array Value} {below : List Frame} {meth : Method} {c : Code} {T : State} {H : Heap} {locs : List Loc} {cells slots : Nat}
theorem vx_callVX (X : Stand p l e R s m args below meth c T locs cells slots) (hexec : p.tables.exec = Jvm.exec) {own C : String} {index : Nat} {y : MethodName} {bytes : ByteArray} {maxL : Nat} {ret : Option FieldType} {hh : List (Nat × Nat × Nat × Nat)}
    (hown : s.vm.findClass own = some m.cls) (hlink : (Cond.methodLink own index y).before args s = true) (hinst : (Cond.instanceMethod y).before args s = true) (hsel : (Cond.selects C y y).before args s = true)
    (hcode : (Cond.codeWith y bytes maxL ret hh).before args s = true) (hy : y.cls ≠ "java/lang/invoke/MethodHandle" ∧ y.cls ≠ "java/lang/invoke/VarHandle")
    {W9 : Nat} {Pre : Pt → Array Value → Prop} {Post : Pt → Array Value → Option Value → Pt → Prop} {PostX : Pt → Array Value → Addr → Pt → Prop} (hK : vx_Back l R p e below s args y 3 W9 Pre Post PostX)
    {b : Addr} {cellB : Cell} (hcell : T.heap[b]? = some cellB) (hobj : cellB.vm.isStatics = false) (hcls : s.vm.findClass C = some cellB.cls)
    {g : JFrame} (hg : g.method = m) (hsize : g.locals.size = c.maxLocals) {argsL rest : List Value} (hlen : ∀ sig, parseMethodDescriptor y.desc = some sig → argsL.length = sig.parameters.length)
    (hstack : g.stack = argsL.reverse ++ .ref b :: rest) (hW : 2 * g.monitorRoom + (rest.map fun v => v.category).sum ≤ W9) (hdg : decode c.code g.pc = .ok (.invokevirtual index, 3))
    (hpre : ∀ vm₁, s.WarmedH vm₁ → Pre ⟨T.setVm vm₁, locs, cells, slots⟩ (Value.ref b :: argsL).toArray) :
    (∃ (v : Option Value) (vm₁ : Vm) (B : Pt), s.WarmedH vm₁ ∧ Stand p l e R s m args below meth c B.U B.locs B.cells B.slots ∧ Post ⟨T.setVm vm₁, locs, cells, slots⟩ (Value.ref b :: argsL).toArray v B ∧
      ∀ target, Steps p.tables e below (B.U.setTop { g with pc := g.pc + 3, stack := v.toList ++ rest }) target → Steps p.tables e below (T.setTop g) target) ∨
    (∃ (q : Addr) (vm₁ : Vm) (B : Pt), s.WarmedH vm₁ ∧ Stand p l e R s m args below meth c B.U B.locs B.cells B.slots ∧ PostX ⟨T.setVm vm₁, locs, cells, slots⟩ (Value.ref b :: argsL).toArray q B ∧
      Steps p.tables e below (T.setTop g) ((B.U.setTop { g with stack := rest }).pushFrame (.throwing q))) := by
  obtain ⟨mk, methM, hnamed, hmethM, hstM, habM⟩ := Cond.instanceMethod_spec hinst
  obtain ⟨m8, methM', cM, hn8, hmethM', -, -, -, -, -, -, hsigM⟩ := Cond.codeWith_spec hcode
  cases Option.some.inj (hn8.symm.trans hnamed)
  cases hmethM.symm.trans hmethM'
  obtain ⟨c2, r2, m2, q1, q2, q3, q4, kP, hkP, hkPi⟩ := Cond.selects_spec hsel
  cases hcls.symm.trans q1
  cases (State.methodFound?_of_named hnamed hy).symm.trans q2
  cases hnamed.symm.trans q3
  have hselP : selectMethod e.platform s.vm cellB.cls mk = .method mk := by rw [Launch.admits_selectMethod X.admits]; exact q4
  obtain ⟨vm₁, X₁, hstep₁⟩ := X.invokevirtual hexec hown hlink hnamed hmethM hstM hkP hkPi hy (a := b) (cell := cellB) hcell
    (fun z h => by rw [h] at hobj; cases hobj) hselP hmethM habM hkP hkPi (g := g) hg (argsL := argsL) (rest := rest) (hlen _ hsigM) hstack hdg
  rcases hK m meth c ⟨T.setVm vm₁, locs, cells, slots⟩ { g with stack := rest } (.invokevirtual index) mk (Value.ref b :: argsL).toArray X₁ hg hsize hdg hW (X₁.named hnamed) (hpre vm₁ X₁.warmed) with ⟨v, B, X', hpost, hsteps⟩ | ⟨q, B, X', hpost, hsteps⟩
  · exact Or.inl ⟨v, vm₁, B, X₁.warmed, X', hpost, fun target h => hstep₁ _ fun acts => by rw [doInvoke_state]; exact hsteps.trans h⟩
  · exact Or.inr ⟨q, vm₁, B, X₁.warmed, X', hpost, hstep₁ _ fun acts => by rw [doInvoke_state]; exact hsteps⟩
theorem vx_callSX (X : Stand p l e R s m args below meth c T locs cells slots) (hexec : p.tables.exec = Jvm.exec) {own : String} {index : Nat} {y : MethodName} {bytes : ByteArray} {maxL : Nat} {ret : Option FieldType} {hh : List (Nat × Nat × Nat × Nat)}
    (hown : s.vm.findClass own = some m.cls) (hlink : (Cond.methodLink own index y).before args s = true) (hstat : (Cond.static y).before args s = true) (hinit : (Cond.initialized y.cls).before args s = true)
    (hcode : (Cond.codeWith y bytes maxL ret hh).before args s = true) (hy : y.cls ≠ "java/lang/invoke/MethodHandle" ∧ y.cls ≠ "java/lang/invoke/VarHandle")
    {W9 : Nat} {Pre : Pt → Array Value → Prop} {Post : Pt → Array Value → Option Value → Pt → Prop} {PostX : Pt → Array Value → Addr → Pt → Prop} (hK : vx_Back l R p e below s args y 3 W9 Pre Post PostX)
    {g : JFrame} (hg : g.method = m) (hsize : g.locals.size = c.maxLocals) {argsL rest : List Value} (hlen : ∀ sig, parseMethodDescriptor y.desc = some sig → argsL.length = sig.parameters.length)
    (hstack : g.stack = argsL.reverse ++ rest) (hW : 2 * g.monitorRoom + (rest.map fun v => v.category).sum ≤ W9) (hdg : decode c.code g.pc = .ok (.invokestatic index, 3))
    (hpre : ∀ vm₁, s.WarmedH vm₁ → Pre ⟨T.setVm vm₁, locs, cells, slots⟩ argsL.toArray) :
    (∃ (v : Option Value) (vm₁ : Vm) (B : Pt), s.WarmedH vm₁ ∧ Stand p l e R s m args below meth c B.U B.locs B.cells B.slots ∧ Post ⟨T.setVm vm₁, locs, cells, slots⟩ argsL.toArray v B ∧
      ∀ target, Steps p.tables e below (B.U.setTop { g with pc := g.pc + 3, stack := v.toList ++ rest }) target → Steps p.tables e below (T.setTop g) target) ∨
    (∃ (q : Addr) (vm₁ : Vm) (B : Pt), s.WarmedH vm₁ ∧ Stand p l e R s m args below meth c B.U B.locs B.cells B.slots ∧ PostX ⟨T.setVm vm₁, locs, cells, slots⟩ argsL.toArray q B ∧
      Steps p.tables e below (T.setTop g) ((B.U.setTop { g with stack := rest }).pushFrame (.throwing q))) := by
  obtain ⟨mk, methM, cM, hnamed, hmethM, -, -, -, -, -, -, hsigM⟩ := Cond.codeWith_spec hcode
  have hstatic : methM.isStatic = true := Cond.static_spec hnamed hmethM hstat
  obtain ⟨kP, hkP, -⟩ := className_of_methodNamed hnamed
  have hinitP : kP.init = .initialized := Cond.initialized_spec (findClass_of_methodNamed hnamed) hkP hinit
  obtain ⟨vm₁, X₁, hstep₁⟩ := X.invokestatic hexec hown hlink hnamed hmethM hstatic hkP hinitP hy (g := g) hg (argsL := argsL) (rest := rest) (hlen _ hsigM) hstack hdg
  rcases hK m meth c ⟨T.setVm vm₁, locs, cells, slots⟩ { g with stack := rest } (.invokestatic index) mk argsL.toArray X₁ hg hsize hdg hW (X₁.named hnamed) (hpre vm₁ X₁.warmed) with ⟨v, B, X', hpost, hsteps⟩ | ⟨q, B, X', hpost, hsteps⟩
  · exact Or.inl ⟨v, vm₁, B, X₁.warmed, X', hpost, fun target h => hstep₁ _ fun acts => by rw [doInvoke_state]; exact hsteps.trans h⟩
  · exact Or.inr ⟨q, vm₁, B, X₁.warmed, X', hpost, hstep₁ _ fun acts => by rw [doInvoke_state]; exact hsteps⟩
theorem vx_callVW (X : Stand p l e R s m args below meth c T locs cells slots) (hexec : p.tables.exec = Jvm.exec) {own C : String} {index : Nat} {y : MethodName} {bytes : ByteArray} {maxL : Nat} {ret : Option FieldType} {hh : List (Nat × Nat × Nat × Nat)}
    (hown : s.vm.findClass own = some m.cls) (hlink : (Cond.methodLink own index y).before args s = true) (hinst : (Cond.instanceMethod y).before args s = true) (hsel : (Cond.selects C y y).before args s = true)
    (hcode : (Cond.codeWith y bytes maxL ret hh).before args s = true) (hy : y.cls ≠ "java/lang/invoke/MethodHandle" ∧ y.cls ≠ "java/lang/invoke/VarHandle")
    {W9 : Nat} {Pre : Pt → Array Value → Prop} {Post : Pt → Array Value → Option Value → Pt → Prop} (hK : Back l R p e below s args y 3 W9 Pre Post)
    {b : Addr} {cellB : Cell} (hcell : T.heap[b]? = some cellB) (hobj : cellB.vm.isStatics = false) (hcls : s.vm.findClass C = some cellB.cls)
    {g : JFrame} (hg : g.method = m) (hsize : g.locals.size = c.maxLocals) {argsL rest : List Value} (hlen : ∀ sig, parseMethodDescriptor y.desc = some sig → argsL.length = sig.parameters.length)
    (hstack : g.stack = argsL.reverse ++ .ref b :: rest) (hW : 2 * g.monitorRoom + (rest.map fun v => v.category).sum ≤ W9) (hdg : decode c.code g.pc = .ok (.invokevirtual index, 3))
    (hpre : ∀ vm₁, s.WarmedH vm₁ → Pre ⟨T.setVm vm₁, locs, cells, slots⟩ (Value.ref b :: argsL).toArray) :
    ∃ (v : Option Value) (vm₁ : Vm) (B : Pt), s.WarmedH vm₁ ∧ Stand p l e R s m args below meth c B.U B.locs B.cells B.slots ∧ Post ⟨T.setVm vm₁, locs, cells, slots⟩ (Value.ref b :: argsL).toArray v B ∧
      ∀ target, Steps p.tables e below (B.U.setTop { g with pc := g.pc + 3, stack := v.toList ++ rest }) target → Steps p.tables e below (T.setTop g) target := by
  obtain ⟨mk, methM, hnamed, hmethM, hstM, habM⟩ := Cond.instanceMethod_spec hinst
  obtain ⟨m8, methM', cM, hn8, hmethM', -, -, -, -, -, -, hsigM⟩ := Cond.codeWith_spec hcode
  cases Option.some.inj (hn8.symm.trans hnamed)
  cases hmethM.symm.trans hmethM'
  obtain ⟨c2, r2, m2, q1, q2, q3, q4, kP, hkP, hkPi⟩ := Cond.selects_spec hsel
  cases hcls.symm.trans q1
  cases (State.methodFound?_of_named hnamed hy).symm.trans q2
  cases hnamed.symm.trans q3
  have hselP : selectMethod e.platform s.vm cellB.cls mk = .method mk := by rw [Launch.admits_selectMethod X.admits]; exact q4
  obtain ⟨vm₁, X₁, hstep₁⟩ := X.invokevirtual hexec hown hlink hnamed hmethM hstM hkP hkPi hy (a := b) (cell := cellB) hcell
    (fun z h => by rw [h] at hobj; cases hobj) hselP hmethM habM hkP hkPi (g := g) hg (argsL := argsL) (rest := rest) (hlen _ hsigM) hstack hdg
  obtain ⟨v, B, X', hpost, hsteps⟩ := hK m meth c ⟨T.setVm vm₁, locs, cells, slots⟩ { g with stack := rest } (.invokevirtual index) mk (Value.ref b :: argsL).toArray X₁ hg hsize hdg hW (X₁.named hnamed) (hpre vm₁ X₁.warmed)
  exact ⟨v, vm₁, B, X₁.warmed, X', hpost, fun target h => hstep₁ _ fun acts => by rw [doInvoke_state]; exact hsteps.trans h⟩
abbrev vx_CVW (R : Room) (s : State) (args : Array Value) (own C : String) (index : Nat) (y : MethodName) (bytes : ByteArray) (maxL : Nat) (ret : Option FieldType) (hh : List (Nat × Nat × Nat × Nat)) (ws : List Cond) (rm : Room) (mc ms n : Nat) : Prop :=
  (rm.cells = mc ∧ rm.slots = ms ∧ rm.frames + 1 ≤ R.frames ∧ 8 + (maxL + 11) + rm.locals ≤ R.locals ∧ (∀ w ∈ ws, ∀ (a' : Array Value) (U : State), s.WarmedH U.vm → w.before a' U = true) ∧ Cond.codeWith y bytes maxL ret hh ∈ ws) ∧
  (Cond.codeWith y bytes maxL ret hh).before args s = true ∧ (Cond.initialized y.cls).before args s = true ∧ (y.cls ≠ "java/lang/invoke/MethodHandle" ∧ y.cls ≠ "java/lang/invoke/VarHandle") ∧
  (∀ sig, parseMethodDescriptor y.desc = some sig → n = sig.parameters.length) ∧ (Cond.methodLink own index y).before args s = true ∧ (Cond.instanceMethod y).before args s = true ∧ (Cond.selects C y y).before args s = true
theorem vx_cwVW {own C : String} {index maxL mc ms : Nat} {y : MethodName} {bytes : ByteArray} {ret : Option FieldType} {hh : List (Nat × Nat × Nat × Nat)} {Ts ws ws' : List Cond} {rm : Room} (n : Nat) (ht : ∀ w ∈ Ts, w.before args s = true) (hT : GoodIn Ts (wsV own index C y ws)) (hw : ws = Cond.codeWith y bytes maxL ret hh :: ws') (hrc : rm.cells = mc) (hrs : rm.slots = ms)
    (hd : y.cls = C ∧ y.cls ≠ "java/lang/invoke/MethodHandle" ∧ y.cls ≠ "java/lang/invoke/VarHandle" ∧ (parseMethodDescriptor y.desc).map (fun d => d.parameters.length) = some n) (hR : rm.frames + 1 ≤ R.frames ∧ 8 + (maxL + 11) + rm.locals ≤ R.locals) :
    vx_CVW R s args own C index y bytes maxL ret hh ws rm mc ms n := by
  obtain ⟨hC, hd⟩ := hd
  subst hC
  have ok : ∀ w ∈ wsV own index y.cls y ws, w.before args s = true := fun w h => ht w (hT w h).1
  have hG : GoodIn Ts ws := fun w h => hT w (by unfold wsV; exact List.mem_append_right _ h)
  have hc : Cond.codeWith y bytes maxL ret hh ∈ ws := by rw [hw]; exact List.mem_cons_self
  refine ⟨⟨hrc, hrs, hR.1, hR.2, pay_in ht hG, hc⟩, ht _ (hG _ hc).1, ok _ (by simp [wsV]), ⟨hd.1, hd.2.1⟩, fun sig h => ?_, ok _ (by simp [wsV]), ok _ (by simp [wsV]), ok _ (by simp [wsV])⟩
  have h2 := hd.2.2
  rw [h] at h2
  exact (Option.some.inj h2).symm
theorem vx_runVW {y : MethodName} {bytes cc : ByteArray} {maxL nL mc ms n index : Nat} {ret : Option FieldType} {hh : List (Nat × Nat × Nat × Nat)} {ws : List Cond} {rm : Room} {Pc : Array Value → State → Prop} {Qc : Array Value → State → Outcome → State → Prop} {free : Addr → Prop} {Ts : List Cond} {own C : String} {b : Addr} {As rest : List Value} {g : JFrame}
    (S : CallFix p m c cc nL s args Ts own) (hM : Met l y ws rm Pc Qc mc ms free) (cw : vx_CVW R s args own C index y bytes maxL ret hh ws rm mc ms n) (hp : PreV s H C b Pc As)
    (hg : g.method = m) (hn : As.length = n) (hsize : g.locals.size = nL) (hstack : g.stack = As.reverse ++ .ref b :: rest) (hW : 2 * g.monitorRoom + (rest.map fun v => v.category).sum ≤ 8) (hdg : decode cc g.pc = .ok (.invokevirtual index, 3)) (hf : cells + mc ≤ R.cells ∧ slots + ms ≤ R.slots) :
    va_Run p l e R s m args below meth c H locs cells slots mc ms g rest (Qc (Value.ref b :: As).toArray) free := by
  obtain ⟨⟨hrc, hrs, hfr, hlo, hws, hcw⟩, hcode, hini, hy, hlen, hl, hin, hse⟩ := cw
  have hK : Back l R p e below s args y 3 8 (PreOf R mc ms Pc) (PostOf Qc mc ms free) := va_backW (hh := hh) (bytes := bytes) (maxL := maxL) (ret := ret) hM hp.1 hrc hrs hfr hlo hws hcw (fun a' U hW => word_at hW (Or.inl (by first | rfl | simp [Cond.onTables, Cond.keeps, Cond.steady])) hini)
  obtain ⟨hx, hb, hml, ho, -⟩ := S
  obtain ⟨-, ⟨cellB, hcB, hoB, hclB⟩, hPc⟩ := hp
  intro T hT X
  obtain ⟨v, vm₁, ⟨U', l2, c2, s2⟩, hW₁, X', ⟨g', mk, t, L, e1, e2, hq, h1, hL, h2, h3⟩, st⟩ := vx_callVW X hx (C := C) (hh := hh) (bytes := bytes) (maxL := maxL) (ret := ret) ho hl hin hse hcode hy hK (by rw [hT]; exact hcB) hoB hclB hg (hsize.trans hml.symm) (argsL := As) (rest := rest) (fun sig h => hn.trans (hlen sig h)) hstack hW (by rw [hb]; exact hdg)
    (fun vm₁ hW₁ => ⟨hf.1, hf.2, hPc (T.setVm vm₁) hT hW₁⟩)
  dsimp only [Pt.U, Pt.locs, Pt.cells, Pt.slots] at X' e1 e2 h1 h2 h3 st
  subst h1; subst h2; subst h3
  exact ⟨v, (T.setVm vm₁).calling g' mk (Value.ref b :: As).toArray, t, U', L, hT, X', hL, e1, e2, hq, st⟩
section
variable {y : MethodName} {bytes cc : ByteArray} {maxL nL mc ms n index : Nat} {ret : Option FieldType} {ws : List Cond} {rm : Room} {Pc : Array Value → State → Prop} {Qc : Array Value → State → Outcome → State → Prop} {XC : String → State → State → Prop} {free : Addr → Prop} {Ts : List Cond} {own C : String} {b : Addr} {As rest : List Value} {g : JFrame}
theorem vx_runVX {hh : List (Nat × Nat × Nat × Nat)} (S : CallFix p m c cc nL s args Ts own) (hM : vx_Met l y ws rm Pc Qc XC mc ms free) (cw : vx_CVW R s args own C index y bytes maxL ret hh ws rm mc ms n) (hp : PreV s H C b Pc As)
    (hg : g.method = m) (hn : As.length = n) (hsize : g.locals.size = nL) (hstack : g.stack = As.reverse ++ .ref b :: rest) (hW : 2 * g.monitorRoom + (rest.map fun v => v.category).sum ≤ 8) (hdg : decode cc g.pc = .ok (.invokevirtual index, 3)) (hf : cells + mc ≤ R.cells ∧ slots + ms ≤ R.slots) :
    vx_Run p l e R s m args below meth c H locs cells slots mc ms g rest (Qc (Value.ref b :: As).toArray) XC free := by
  obtain ⟨⟨hrc, hrs, hfr, hlo, hws, hcw⟩, hcode, hini, hy, hlen, hl, hin, hse⟩ := cw
  have hK : vx_Back l R p e below s args y 3 8 (PreOf R mc ms Pc) (PostOf Qc mc ms free) (vx_Post XC mc ms free) := vx_backW (hh := hh) (bytes := bytes) (maxL := maxL) (ret := ret) hM hp.1 hrc hrs hfr hlo hws hcw (fun a' U hW => word_at hW (Or.inl (by first | rfl | simp [Cond.onTables, Cond.keeps, Cond.steady])) hini)
  obtain ⟨hx, hb, hml, ho, -⟩ := S
  obtain ⟨-, ⟨cellB, hcB, hoB, hclB⟩, hPc⟩ := hp
  intro T hT X
  rcases vx_callVX X hx (C := C) (hh := hh) (bytes := bytes) (maxL := maxL) (ret := ret) ho hl hin hse hcode hy hK (by rw [hT]; exact hcB) hoB hclB hg (hsize.trans hml.symm) (argsL := As) (rest := rest) (fun sig h => hn.trans (hlen sig h)) hstack hW (by rw [hb]; exact hdg)
    (fun vm₁ hW₁ => ⟨hf.1, hf.2, hPc (T.setVm vm₁) hT hW₁⟩) with ⟨v, vm₁, ⟨U', l2, c2, s2⟩, hW₁, X', ⟨g', mk, t, L, e1, e2, hq, h1, hL, h2, h3⟩, st⟩ | ⟨q, vm₁, ⟨U', l2, c2, s2⟩, hW₁, X', ⟨g', mk, t, L, E, ce, e1, e2, hq, hce, hcv, hcl, h1, hL, h2, h3⟩, st⟩
  · dsimp only [Pt.U, Pt.locs, Pt.cells, Pt.slots] at X' e1 e2 h1 h2 h3 st
    subst h1; subst h2; subst h3
    exact Or.inl ⟨v, (T.setVm vm₁).calling g' mk (Value.ref b :: As).toArray, t, U', L, hT, X', hL, e1, e2, hq, st⟩
  · dsimp only [Pt.U, Pt.locs, Pt.cells, Pt.slots] at X' e1 e2 h1 h2 h3 st hcl
    subst h1; subst h2; subst h3
    exact Or.inr ⟨q, (T.setVm vm₁).calling g' mk (Value.ref b :: As).toArray, t, U', L, E, ce, hT, X', hL, e1, e2, hq, hce, hcv, vx_cls hW₁ hcl, st⟩
theorem vx_runSX {hh : List (Nat × Nat × Nat × Nat)} (S : CallFix p m c cc nL s args Ts own) (hM : vx_Met l y ws rm Pc Qc XC mc ms free) (cw : vx_CSW R s args own index y bytes maxL ret hh ws rm mc ms n) (hp : PreS s H Pc As)
    (hg : g.method = m) (hn : As.length = n) (hsize : g.locals.size = nL) (hstack : g.stack = As.reverse ++ rest) (hW : 2 * g.monitorRoom + (rest.map fun v => v.category).sum ≤ 8) (hdg : decode cc g.pc = .ok (.invokestatic index, 3)) (hf : cells + mc ≤ R.cells ∧ slots + ms ≤ R.slots) :
    vx_Run p l e R s m args below meth c H locs cells slots mc ms g rest (Qc As.toArray) XC free := by
  obtain ⟨⟨hrc, hrs, hfr, hlo, hws, hcw⟩, hcode, hini, hy, hlen, hl, hstt⟩ := cw
  have hK : vx_Back l R p e below s args y 3 8 (PreOf R mc ms Pc) (PostOf Qc mc ms free) (vx_Post XC mc ms free) := vx_backW (hh := hh) (bytes := bytes) (maxL := maxL) (ret := ret) hM hp.1 hrc hrs hfr hlo hws hcw (fun a' U hW => word_at hW (Or.inl (by first | rfl | simp [Cond.onTables, Cond.keeps, Cond.steady])) hini)
  obtain ⟨hx, hb, hml, ho, -⟩ := S
  intro T hT X
  rcases vx_callSX X hx (hh := hh) (bytes := bytes) (maxL := maxL) (ret := ret) ho hl hstt hini hcode hy hK hg (hsize.trans hml.symm) (argsL := As) (rest := rest) (fun sig h => hn.trans (hlen sig h)) hstack hW (by rw [hb]; exact hdg)
    (fun vm₁ hW₁ => ⟨hf.1, hf.2, hp.2 (T.setVm vm₁) hT hW₁⟩) with ⟨v, vm₁, ⟨U', l2, c2, s2⟩, hW₁, X', ⟨g', mk, t, L, e1, e2, hq, h1, hL, h2, h3⟩, st⟩ | ⟨q, vm₁, ⟨U', l2, c2, s2⟩, hW₁, X', ⟨g', mk, t, L, E, ce, e1, e2, hq, hce, hcv, hcl, h1, hL, h2, h3⟩, st⟩
  · dsimp only [Pt.U, Pt.locs, Pt.cells, Pt.slots] at X' e1 e2 h1 h2 h3 st
    subst h1; subst h2; subst h3
    exact Or.inl ⟨v, (T.setVm vm₁).calling g' mk As.toArray, t, U', L, hT, X', hL, e1, e2, hq, st⟩
  · dsimp only [Pt.U, Pt.locs, Pt.cells, Pt.slots] at X' e1 e2 h1 h2 h3 st hcl
    subst h1; subst h2; subst h3
    exact Or.inr ⟨q, (T.setVm vm₁).calling g' mk As.toArray, t, U', L, E, ce, hT, X', hL, e1, e2, hq, hce, hcv, vx_cls hW₁ hcl, st⟩
end
end VXH
theorem vx_ofWH {l : Launch} {y : MethodName} {ws ws' : List Cond} {rm : Room} {Pc : Array Value → State → Prop} {Qc : Array Value → State → Outcome → State → Prop} {XC : String → State → State → Prop} {mc ms : Nat} {free : Addr → Prop} {cc : ByteArray} {maxL : Nat} {ret : Option FieldType} {hh : List (Nat × Nat × Nat × Nat)}
    (hy : plainName y.cls = true) (hw : ws = Cond.codeWith y cc maxL ret hh :: ws')
    (body : ∀ p e s m args below meth c s₁, BodyLoose p l y (headSpec ws rm) cc maxL ret e s m args below meth c s₁ → c.maxLocals = maxL → Pc args s →
      W p l e (headSpec ws rm).room s m args below meth c s.heap [] 0 0 (vx_MQ below Qc XC args s mc ms free) (entryFrame m args maxL)) : vx_Met l y ws rm Pc Qc XC mc ms free := by
  refine MetFree.of_bodyS (code := cc) (maxLocals := maxL) (ret := ret) hy ?_ ?_
  · intro args s m h hn
    obtain ⟨m9, meth, c, hn9, h1, h2, h3, h4, -, h5, h6, -⟩ := Cond.codeWith_spec (atoms_spec (ws := ws) h _ (by rw [hw]; exact List.mem_cons_self))
    cases hn.symm.trans hn9
    exact ⟨meth, c, h1, h2, h3, h4, h5, h6⟩
  · intro p e s m args below meth c s₁ B hml hP _
    have hh0 : s₁.heap = s.heap := by rw [B.state]; rfl
    obtain ⟨t, a1, o, b1, b2, b3⟩ := body p e s m args below meth c s₁ B hml hP s₁ hh0 (Stand.of_body B)
    exact ⟨t, o, a1, b1, b2, b3⟩
/-! ===== END ===== -/
end
section
/-! ===== BEGIN printed: names, fields, word lists, decode rows ===== -/
def RX0 : String := "BatchTransfer$Receiver"
def TX0 : u_T := fun k => match k with
  | 0 => ("BatchTransfer$Side", "mode", "I", false)
  | 1 => ("BatchTransfer$Side", "outcome", "I", false)
  | 2 => ("BatchTransfer$Side", "misses", "I", false)
  | 3 => ("BatchTransfer$Receiver", "arrived", "LBatchTransfer$Shelf;", true)
  | 4 => ("BatchTransfer$Receiver", "expected", "I", false)
  | 5 => ("BatchTransfer$Receiver", "headExpected", "Z", false)
  | 6 => ("BatchTransfer$Receiver", "anyWasRight", "Z", false)
  | 7 => ("BatchTransfer$Receiver", "anyOfFileWasRight", "Z", false)
  | _ => ("BatchTransfer$Receiver", "sizeTold", "I", false)
def tyX0 : Nat → FieldType := fun k => match k with
  | 0 => .int
  | 1 => .int
  | 2 => .int
  | 3 => .object "BatchTransfer$Shelf"
  | 4 => .int
  | 5 => .boolean
  | 6 => .boolean
  | 7 => .boolean
  | _ => .int
abbrev wsX00 : List Cond := u_ws RX0 TX0 9
theorem nmX0 : ∀ a, a < 9 → ∀ b, b < 9 → a ≠ b → (TX0 a).2.1 ≠ (TX0 b).2.1 := by decide +kernel
theorem tyX0_ok : ∀ k, k < 9 → parseFieldDescriptor (TX0 k).2.2.1 = some (tyX0 k) := by decide +kernel
abbrev cX0_init : ByteArray := prog_2_method_1_code
def yX0_init : MethodName := ⟨RX0, "<init>", "()V"⟩
abbrev cX0_prepare : ByteArray := prog_2_method_2_code
def yX0_prepare : MethodName := ⟨RX0, "prepare", "(I)V"⟩
abbrev cX0_answer : ByteArray := prog_2_method_3_code
def yX0_answer : MethodName := ⟨RX0, "answer", "(LBatchTransfer$Wire;)V"⟩
abbrev cX0_answerBlock : ByteArray := prog_2_method_4_code
def yX0_answerBlock : MethodName := ⟨RX0, "answerBlock", "(LBatchTransfer$Wire;)V"⟩
abbrev cX0_answerEnd : ByteArray := prog_2_method_5_code
def yX0_answerEnd : MethodName := ⟨RX0, "answerEnd", "(LBatchTransfer$Wire;)V"⟩
abbrev cX0_acknowledge : ByteArray := prog_2_method_6_code
def yX0_acknowledge : MethodName := ⟨RX0, "acknowledge", "(LBatchTransfer$Wire;)V"⟩
abbrev cX0_takeHead : ByteArray := prog_2_method_7_code
def yX0_takeHead : MethodName := ⟨RX0, "takeHead", "(LBatchTransfer$Wire;)V"⟩
abbrev cX0_nameLengthIn : ByteArray := prog_2_method_8_code
def yX0_nameLengthIn : MethodName := ⟨RX0, "nameLengthIn", "(LBatchTransfer$Wire;)I"⟩
abbrev cX0_numberIn : ByteArray := prog_2_method_9_code
def yX0_numberIn : MethodName := ⟨RX0, "numberIn", "(LBatchTransfer$Wire;I)I"⟩
abbrev cX0_takeData : ByteArray := prog_2_method_10_code
def yX0_takeData : MethodName := ⟨RX0, "takeData", "(LBatchTransfer$Wire;)V"⟩
abbrev cX0_closeFile : ByteArray := prog_2_method_11_code
def yX0_closeFile : MethodName := ⟨RX0, "closeFile", "()V"⟩
abbrev cX0_expectHead : ByteArray := prog_2_method_12_code
def yX0_expectHead : MethodName := ⟨RX0, "expectHead", "()V"⟩
abbrev cX0_expectBlocks : ByteArray := prog_2_method_13_code
def yX0_expectBlocks : MethodName := ⟨RX0, "expectBlocks", "()V"⟩
def RX1 : String := "BatchTransfer$Sender"
def TX1 : u_T := fun k => match k with
  | 0 => ("BatchTransfer$Side", "mode", "I", false)
  | 1 => ("BatchTransfer$Side", "outcome", "I", false)
  | 2 => ("BatchTransfer$Side", "misses", "I", false)
  | 3 => ("BatchTransfer$Sender", "files", "LBatchTransfer$Shelf;", true)
  | 4 => ("BatchTransfer$Sender", "asked", "Z", false)
  | 5 => ("BatchTransfer$Sender", "unit", "LBatchTransfer$Unit;", false)
  | 6 => ("BatchTransfer$Sender", "current", "I", false)
  | 7 => ("BatchTransfer$Sender", "number", "I", false)
  | 8 => ("BatchTransfer$Sender", "offset", "I", false)
  | _ => ("BatchTransfer$Sender", "left", "I", false)
def tyX1 : Nat → FieldType := fun k => match k with
  | 0 => .int
  | 1 => .int
  | 2 => .int
  | 3 => .object "BatchTransfer$Shelf"
  | 4 => .boolean
  | 5 => .object "BatchTransfer$Unit"
  | 6 => .int
  | 7 => .int
  | 8 => .int
  | _ => .int
abbrev wsX10 : List Cond := u_ws RX1 TX1 10
theorem nmX1 : ∀ a, a < 10 → ∀ b, b < 10 → a ≠ b → (TX1 a).2.1 ≠ (TX1 b).2.1 := by decide +kernel
theorem tyX1_ok : ∀ k, k < 10 → parseFieldDescriptor (TX1 k).2.2.1 = some (tyX1 k) := by decide +kernel
abbrev cX1_init : ByteArray := prog_3_method_1_code
def yX1_init : MethodName := ⟨RX1, "<init>", "()V"⟩
abbrev cX1_prepare : ByteArray := prog_3_method_2_code
def yX1_prepare : MethodName := ⟨RX1, "prepare", "(I)V"⟩
abbrev cX1_answer : ByteArray := prog_3_method_3_code
def yX1_answer : MethodName := ⟨RX1, "answer", "(LBatchTransfer$Wire;)V"⟩
abbrev cX1_goToNextUnit : ByteArray := prog_3_method_4_code
def yX1_goToNextUnit : MethodName := ⟨RX1, "goToNextUnit", "()V"⟩
abbrev cX1_goIntoFile : ByteArray := prog_3_method_5_code
def yX1_goIntoFile : MethodName := ⟨RX1, "goIntoFile", "()V"⟩
abbrev cX1_goBehindBlock : ByteArray := prog_3_method_6_code
def yX1_goBehindBlock : MethodName := ⟨RX1, "goBehindBlock", "()V"⟩
abbrev cX1_goBehindFile : ByteArray := prog_3_method_7_code
def yX1_goBehindFile : MethodName := ⟨RX1, "goBehindFile", "()V"⟩
abbrev cX1_putUnit : ByteArray := prog_3_method_8_code
def yX1_putUnit : MethodName := ⟨RX1, "putUnit", "(LBatchTransfer$Wire;)V"⟩
abbrev cX1_putHead : ByteArray := prog_3_method_9_code
def yX1_putHead : MethodName := ⟨RX1, "putHead", "(LBatchTransfer$Wire;)V"⟩
abbrev cX1_putDigits : ByteArray := prog_3_method_10_code
def yX1_putDigits : MethodName := ⟨RX1, "putDigits", "(LBatchTransfer$Wire;II)V"⟩
abbrev cX1_putBlock : ByteArray := prog_3_method_11_code
def yX1_putBlock : MethodName := ⟨RX1, "putBlock", "(LBatchTransfer$Wire;)V"⟩
abbrev cX1_blockLength : ByteArray := prog_3_method_12_code
def yX1_blockLength : MethodName := ⟨RX1, "blockLength", "()I"⟩
def RX2 : String := "BatchTransfer$Shelf"
def TX2 : u_T := fun k => match k with
  | 0 => ("BatchTransfer$Shelf", "names", "[B", true)
  | 1 => ("BatchTransfer$Shelf", "nameLengths", "[I", true)
  | 2 => ("BatchTransfer$Shelf", "data", "[B", true)
  | 3 => ("BatchTransfer$Shelf", "starts", "[I", true)
  | 4 => ("BatchTransfer$Shelf", "sizes", "[I", true)
  | _ => ("BatchTransfer$Shelf", "count", "I", false)
def tyX2 : Nat → FieldType := fun k => match k with
  | 0 => .array .byte
  | 1 => .array .int
  | 2 => .array .byte
  | 3 => .array .int
  | 4 => .array .int
  | _ => .int
abbrev wsX20 : List Cond := u_ws RX2 TX2 6
theorem nmX2 : ∀ a, a < 6 → ∀ b, b < 6 → a ≠ b → (TX2 a).2.1 ≠ (TX2 b).2.1 := by decide +kernel
theorem tyX2_ok : ∀ k, k < 6 → parseFieldDescriptor (TX2 k).2.2.1 = some (tyX2 k) := by decide +kernel
abbrev cX2_init : ByteArray := prog_4_method_1_code
def yX2_init : MethodName := ⟨RX2, "<init>", "(I)V"⟩
abbrev cX2_has : ByteArray := prog_4_method_2_code
def yX2_has : MethodName := ⟨RX2, "has", "(I)Z"⟩
abbrev cX2_open : ByteArray := prog_4_method_3_code
def yX2_open : MethodName := ⟨RX2, "open", "()V"⟩
abbrev cX2_nameLast : ByteArray := prog_4_method_4_code
def yX2_nameLast : MethodName := ⟨RX2, "nameLast", "([BII)V"⟩
abbrev cX2_nameLastByLetter : ByteArray := prog_4_method_5_code
def yX2_nameLastByLetter : MethodName := ⟨RX2, "nameLastByLetter", "(C)V"⟩
abbrev cX2_extendLast : ByteArray := prog_4_method_6_code
def yX2_extendLast : MethodName := ⟨RX2, "extendLast", "([BII)V"⟩
abbrev cX2_extendLastByOne : ByteArray := prog_4_method_7_code
def yX2_extendLastByOne : MethodName := ⟨RX2, "extendLastByOne", "(I)V"⟩
abbrev cX2_cutLast : ByteArray := prog_4_method_8_code
def yX2_cutLast : MethodName := ⟨RX2, "cutLast", "(I)V"⟩
def RX3 : String := "BatchTransfer$Side"
def TX3 : u_T := fun k => match k with
  | _ => ("", "", "", false)
def tyX3 : Nat → FieldType := fun k => match k with
  | _ => .int
abbrev wsX30 : List Cond := u_ws RX3 TX3 0
theorem nmX3 : ∀ a, a < 0 → ∀ b, b < 0 → a ≠ b → (TX3 a).2.1 ≠ (TX3 b).2.1 := by decide +kernel
theorem tyX3_ok : ∀ k, k < 0 → parseFieldDescriptor (TX3 k).2.2.1 = some (tyX3 k) := by decide +kernel
abbrev cX3_init : ByteArray := prog_5_method_1_code
def yX3_init : MethodName := ⟨RX3, "<init>", "()V"⟩
abbrev cX3_hear : ByteArray := prog_5_method_4_code
def yX3_hear : MethodName := ⟨RX3, "hear", "(LBatchTransfer$Wire;)V"⟩
abbrev cX3_startWork : ByteArray := prog_5_method_5_code
def yX3_startWork : MethodName := ⟨RX3, "startWork", "(I)V"⟩
abbrev cX3_bearsMiss : ByteArray := prog_5_method_6_code
def yX3_bearsMiss : MethodName := ⟨RX3, "bearsMiss", "(LBatchTransfer$Wire;)Z"⟩
abbrev cX3_giveUp : ByteArray := prog_5_method_7_code
def yX3_giveUp : MethodName := ⟨RX3, "giveUp", "(LBatchTransfer$Wire;)V"⟩
def RX4 : String := "BatchTransfer$Tape"
def TX4 : u_T := fun k => match k with
  | 0 => ("BatchTransfer$Tape", "bytes", "[B", true)
  | _ => ("BatchTransfer$Tape", "length", "I", false)
def tyX4 : Nat → FieldType := fun k => match k with
  | 0 => .array .byte
  | _ => .int
abbrev wsX40 : List Cond := u_ws RX4 TX4 2
theorem nmX4 : ∀ a, a < 2 → ∀ b, b < 2 → a ≠ b → (TX4 a).2.1 ≠ (TX4 b).2.1 := by decide +kernel
theorem tyX4_ok : ∀ k, k < 2 → parseFieldDescriptor (TX4 k).2.2.1 = some (tyX4 k) := by decide +kernel
abbrev cX4_init : ByteArray := prog_6_method_1_code
def yX4_init : MethodName := ⟨RX4, "<init>", "()V"⟩
abbrev cX4_append : ByteArray := prog_6_method_2_code
def yX4_append : MethodName := ⟨RX4, "append", "(I)V"⟩
abbrev cX4_nameLength : ByteArray := prog_6_method_3_code
def yX4_nameLength : MethodName := ⟨RX4, "nameLength", "()I"⟩
def RX5 : String := "BatchTransfer$Unit"
def TX5 : u_T := fun k => match k with
  | _ => ("", "", "", false)
def tyX5 : Nat → FieldType := fun k => match k with
  | _ => .int
abbrev wsX50 : List Cond := u_ws RX5 TX5 0
theorem nmX5 : ∀ a, a < 0 → ∀ b, b < 0 → a ≠ b → (TX5 a).2.1 ≠ (TX5 b).2.1 := by decide +kernel
theorem tyX5_ok : ∀ k, k < 0 → parseFieldDescriptor (TX5 k).2.2.1 = some (tyX5 k) := by decide +kernel
def RX6 : String := "BatchTransfer$Wire"
def TX6 : u_T := fun k => match k with
  | 0 => ("BatchTransfer$Wire", "bytes", "[B", true)
  | _ => ("BatchTransfer$Wire", "length", "I", false)
def tyX6 : Nat → FieldType := fun k => match k with
  | 0 => .array .byte
  | _ => .int
abbrev wsX60 : List Cond := u_ws RX6 TX6 2
theorem nmX6 : ∀ a, a < 2 → ∀ b, b < 2 → a ≠ b → (TX6 a).2.1 ≠ (TX6 b).2.1 := by decide +kernel
theorem tyX6_ok : ∀ k, k < 2 → parseFieldDescriptor (TX6 k).2.2.1 = some (tyX6 k) := by decide +kernel
abbrev cX6_init : ByteArray := prog_8_method_1_code
def yX6_init : MethodName := ⟨RX6, "<init>", "()V"⟩
abbrev cX6_get : ByteArray := prog_8_method_2_code
def yX6_get : MethodName := ⟨RX6, "get", "(I)I"⟩
abbrev cX6_empty : ByteArray := prog_8_method_3_code
def yX6_empty : MethodName := ⟨RX6, "empty", "()V"⟩
abbrev cX6_putByte : ByteArray := prog_8_method_4_code
def yX6_putByte : MethodName := ⟨RX6, "putByte", "(I)V"⟩
abbrev cX6_isByte : ByteArray := prog_8_method_5_code
def yX6_isByte : MethodName := ⟨RX6, "isByte", "(I)Z"⟩
abbrev cX6_damage : ByteArray := prog_8_method_6_code
def yX6_damage : MethodName := ⟨RX6, "damage", "(II)V"⟩
abbrev cX6_openBlock : ByteArray := prog_8_method_7_code
def yX6_openBlock : MethodName := ⟨RX6, "openBlock", "(III)V"⟩
abbrev cX6_sealBlock : ByteArray := prog_8_method_8_code
def yX6_sealBlock : MethodName := ⟨RX6, "sealBlock", "(I)V"⟩
abbrev cX6_dataLength : ByteArray := prog_8_method_9_code
def yX6_dataLength : MethodName := ⟨RX6, "dataLength", "()I"⟩
abbrev cX6_isRightBlock : ByteArray := prog_8_method_10_code
def yX6_isRightBlock : MethodName := ⟨RX6, "isRightBlock", "(I)Z"⟩
abbrev cX6_sum : ByteArray := prog_8_method_11_code
def yX6_sum : MethodName := ⟨RX6, "sum", "(I)I"⟩
abbrev cX6_crc : ByteArray := prog_8_method_12_code
def yX6_crc : MethodName := ⟨RX6, "crc", "(I)I"⟩
def RX7 : String := "BatchTransfer"
def TX7 : u_T := fun k => match k with
  | 0 => ("BatchTransfer", "tape", "LBatchTransfer$Tape;", true)
  | 1 => ("BatchTransfer", "wire", "LBatchTransfer$Wire;", true)
  | 2 => ("BatchTransfer", "sender", "LBatchTransfer$Sender;", true)
  | 3 => ("BatchTransfer", "receiver", "LBatchTransfer$Receiver;", true)
  | 4 => ("BatchTransfer", "everBegun", "Z", false)
  | 5 => ("BatchTransfer", "senderIsNext", "Z", false)
  | 6 => ("BatchTransfer", "spoilTold", "Z", false)
  | 7 => ("BatchTransfer", "spoilAt", "I", false)
  | _ => ("BatchTransfer", "spoilMask", "I", false)
def tyX7 : Nat → FieldType := fun k => match k with
  | 0 => .object "BatchTransfer$Tape"
  | 1 => .object "BatchTransfer$Wire"
  | 2 => .object "BatchTransfer$Sender"
  | 3 => .object "BatchTransfer$Receiver"
  | 4 => .boolean
  | 5 => .boolean
  | 6 => .boolean
  | 7 => .int
  | _ => .int
abbrev wsX70 : List Cond := u_ws RX7 TX7 9
theorem nmX7 : ∀ a, a < 9 → ∀ b, b < 9 → a ≠ b → (TX7 a).2.1 ≠ (TX7 b).2.1 := by decide +kernel
theorem tyX7_ok : ∀ k, k < 9 → parseFieldDescriptor (TX7 k).2.2.1 = some (tyX7 k) := by decide +kernel
abbrev cX7_init : ByteArray := prog_1_method_1_code
def yX7_init : MethodName := ⟨RX7, "<init>", "()V"⟩
abbrev cX7_feed : ByteArray := prog_1_method_2_code
def yX7_feed : MethodName := ⟨RX7, "feed", "(IIIII)Z"⟩
abbrev cX7_end : ByteArray := prog_1_method_3_code
def yX7_end : MethodName := ⟨RX7, "end", "(I)Z"⟩
abbrev cX7_file : ByteArray := prog_1_method_4_code
def yX7_file : MethodName := ⟨RX7, "file", "()I"⟩
abbrev cX7_made : ByteArray := prog_1_method_5_code
def yX7_made : MethodName := ⟨RX7, "made", "(II)I"⟩
abbrev cX7_clear : ByteArray := prog_1_method_6_code
def yX7_clear : MethodName := ⟨RX7, "clear", "()Z"⟩
abbrev cX7_begin : ByteArray := prog_1_method_7_code
def yX7_begin : MethodName := ⟨RX7, "begin", "(I)Z"⟩
abbrev cX7_spoil : ByteArray := prog_1_method_8_code
def yX7_spoil : MethodName := ⟨RX7, "spoil", "(II)V"⟩
abbrev cX7_step : ByteArray := prog_1_method_9_code
def yX7_step : MethodName := ⟨RX7, "step", "()I"⟩
abbrev cX7_line : ByteArray := prog_1_method_10_code
def yX7_line : MethodName := ⟨RX7, "line", "()I"⟩
abbrev cX7_lineAt : ByteArray := prog_1_method_11_code
def yX7_lineAt : MethodName := ⟨RX7, "lineAt", "(I)I"⟩
abbrev cX7_state : ByteArray := prog_1_method_12_code
def yX7_state : MethodName := ⟨RX7, "state", "(I)I"⟩
abbrev cX7_received : ByteArray := prog_1_method_13_code
def yX7_received : MethodName := ⟨RX7, "received", "()I"⟩
abbrev cX7_size : ByteArray := prog_1_method_14_code
def yX7_size : MethodName := ⟨RX7, "size", "(I)I"⟩
abbrev cX7_byteAt : ByteArray := prog_1_method_15_code
def yX7_byteAt : MethodName := ⟨RX7, "byteAt", "(II)I"⟩
abbrev cX7_nameAt : ByteArray := prog_1_method_16_code
def yX7_nameAt : MethodName := ⟨RX7, "nameAt", "(II)I"⟩
abbrev cX7_isOn : ByteArray := prog_1_method_17_code
def yX7_isOn : MethodName := ⟨RX7, "isOn", "()Z"⟩
abbrev cX7_mayAddFile : ByteArray := prog_1_method_18_code
def yX7_mayAddFile : MethodName := ⟨RX7, "mayAddFile", "()Z"⟩
abbrev cX7_spoilWire : ByteArray := prog_1_method_19_code
def yX7_spoilWire : MethodName := ⟨RX7, "spoilWire", "()V"⟩
abbrev cX7_askOf : ByteArray := prog_1_method_20_code
def yX7_askOf : MethodName := ⟨RX7, "askOf", "(I)I"⟩
def RX8 : String := "BatchTransferModel"
def TX8 : u_T := fun k => match k with
  | 0 => ("BatchTransferModel", "thrownCode", "I", false)
  | 1 => ("BatchTransferModel", "nibbles", "[I", true)
  | 2 => ("BatchTransferModel", "tape", "[B", true)
  | 3 => ("BatchTransferModel", "tapeLen", "I", false)
  | 4 => ("BatchTransferModel", "files", "I", false)
  | 5 => ("BatchTransferModel", "name", "[B", true)
  | 6 => ("BatchTransferModel", "nameLen", "[I", true)
  | 7 => ("BatchTransferModel", "data", "[B", true)
  | 8 => ("BatchTransferModel", "dataLen", "[I", true)
  | 9 => ("BatchTransferModel", "units", "I", false)
  | 10 => ("BatchTransferModel", "uKind", "[I", true)
  | 11 => ("BatchTransferModel", "uFile", "[I", true)
  | 12 => ("BatchTransferModel", "uFrom", "[I", true)
  | 13 => ("BatchTransferModel", "uSize", "[I", true)
  | 14 => ("BatchTransferModel", "uNumber", "[I", true)
  | 15 => ("BatchTransferModel", "on", "Z", false)
  | 16 => ("BatchTransferModel", "any", "Z", false)
  | 17 => ("BatchTransferModel", "mode", "I", false)
  | 18 => ("BatchTransferModel", "wire", "[B", true)
  | 19 => ("BatchTransferModel", "wireLen", "I", false)
  | 20 => ("BatchTransferModel", "toSender", "Z", false)
  | 21 => ("BatchTransferModel", "told", "Z", false)
  | 22 => ("BatchTransferModel", "toldAt", "I", false)
  | 23 => ("BatchTransferModel", "toldMask", "I", false)
  | 24 => ("BatchTransferModel", "senderState", "I", false)
  | 25 => ("BatchTransferModel", "senderMisses", "I", false)
  | 26 => ("BatchTransferModel", "unit", "I", false)
  | 27 => ("BatchTransferModel", "receiverState", "I", false)
  | 28 => ("BatchTransferModel", "receiverMisses", "I", false)
  | 29 => ("BatchTransferModel", "expected", "I", false)
  | 30 => ("BatchTransferModel", "wantsHead", "Z", false)
  | 31 => ("BatchTransferModel", "everRight", "Z", false)
  | 32 => ("BatchTransferModel", "rightOfFile", "Z", false)
  | 33 => ("BatchTransferModel", "gotFiles", "I", false)
  | 34 => ("BatchTransferModel", "gotName", "[B", true)
  | 35 => ("BatchTransferModel", "gotNameLen", "[I", true)
  | 36 => ("BatchTransferModel", "got", "[B", true)
  | 37 => ("BatchTransferModel", "gotLen", "[I", true)
  | _ => ("BatchTransferModel", "headSize", "I", false)
def tyX8 : Nat → FieldType := fun k => match k with
  | 0 => .int
  | 1 => .array .int
  | 2 => .array .byte
  | 3 => .int
  | 4 => .int
  | 5 => .array .byte
  | 6 => .array .int
  | 7 => .array .byte
  | 8 => .array .int
  | 9 => .int
  | 10 => .array .int
  | 11 => .array .int
  | 12 => .array .int
  | 13 => .array .int
  | 14 => .array .int
  | 15 => .boolean
  | 16 => .boolean
  | 17 => .int
  | 18 => .array .byte
  | 19 => .int
  | 20 => .boolean
  | 21 => .boolean
  | 22 => .int
  | 23 => .int
  | 24 => .int
  | 25 => .int
  | 26 => .int
  | 27 => .int
  | 28 => .int
  | 29 => .int
  | 30 => .boolean
  | 31 => .boolean
  | 32 => .boolean
  | 33 => .int
  | 34 => .array .byte
  | 35 => .array .int
  | 36 => .array .byte
  | 37 => .array .int
  | _ => .int
abbrev wsX80 : List Cond := u_ws RX8 TX8 39
theorem nmX8 : ∀ a, a < 39 → ∀ b, b < 39 → a ≠ b → (TX8 a).2.1 ≠ (TX8 b).2.1 := by decide +kernel
theorem tyX8_ok : ∀ k, k < 39 → parseFieldDescriptor (TX8 k).2.2.1 = some (tyX8 k) := by decide +kernel
abbrev cX8_init : ByteArray := prog_10_method_1_code
def yX8_init : MethodName := ⟨RX8, "<init>", "()V"⟩
abbrev cX8_thrown : ByteArray := prog_10_method_2_code
def yX8_thrown : MethodName := ⟨RX8, "thrown", "()I"⟩
abbrev cX8_feed : ByteArray := prog_10_method_3_code
def yX8_feed : MethodName := ⟨RX8, "feed", "(IIIII)Z"⟩
abbrev cX8_end : ByteArray := prog_10_method_4_code
def yX8_end : MethodName := ⟨RX8, "end", "(I)Z"⟩
abbrev cX8_file : ByteArray := prog_10_method_5_code
def yX8_file : MethodName := ⟨RX8, "file", "()I"⟩
abbrev cX8_made : ByteArray := prog_10_method_6_code
def yX8_made : MethodName := ⟨RX8, "made", "(II)I"⟩
abbrev cX8_clear : ByteArray := prog_10_method_7_code
def yX8_clear : MethodName := ⟨RX8, "clear", "()Z"⟩
abbrev cX8_unitOf : ByteArray := prog_10_method_8_code
def yX8_unitOf : MethodName := ⟨RX8, "unitOf", "(IIIII)V"⟩
abbrev cX8_layOut : ByteArray := prog_10_method_9_code
def yX8_layOut : MethodName := ⟨RX8, "layOut", "()V"⟩
abbrev cX8_byteOn : ByteArray := prog_10_method_10_code
def yX8_byteOn : MethodName := ⟨RX8, "byteOn", "(I)V"⟩
abbrev cX8_check : ByteArray := prog_10_method_11_code
def yX8_check : MethodName := ⟨RX8, "check", "(II)I"⟩
abbrev cX8_sendUnit : ByteArray := prog_10_method_12_code
def yX8_sendUnit : MethodName := ⟨RX8, "sendUnit", "()V"⟩
abbrev cX8_ask : ByteArray := prog_10_method_13_code
def yX8_ask : MethodName := ⟨RX8, "ask", "()I"⟩
abbrev cX8_begin : ByteArray := prog_10_method_14_code
def yX8_begin : MethodName := ⟨RX8, "begin", "(I)Z"⟩
abbrev cX8_spoil : ByteArray := prog_10_method_15_code
def yX8_spoil : MethodName := ⟨RX8, "spoil", "(II)V"⟩
abbrev cX8_senderMiss : ByteArray := prog_10_method_16_code
def yX8_senderMiss : MethodName := ⟨RX8, "senderMiss", "(Z)V"⟩
abbrev cX8_senderGets : ByteArray := prog_10_method_17_code
def yX8_senderGets : MethodName := ⟨RX8, "senderGets", "(Z)V"⟩
abbrev cX8_receiverMiss : ByteArray := prog_10_method_18_code
def yX8_receiverMiss : MethodName := ⟨RX8, "receiverMiss", "()V"⟩
abbrev cX8_isRight : ByteArray := prog_10_method_19_code
def yX8_isRight : MethodName := ⟨RX8, "isRight", "()Z"⟩
abbrev cX8_receiverGets : ByteArray := prog_10_method_20_code
def yX8_receiverGets : MethodName := ⟨RX8, "receiverGets", "(Z)V"⟩
abbrev cX8_keep : ByteArray := prog_10_method_21_code
def yX8_keep : MethodName := ⟨RX8, "keep", "()V"⟩
abbrev cX8_head : ByteArray := prog_10_method_22_code
def yX8_head : MethodName := ⟨RX8, "head", "()V"⟩
abbrev cX8_fileEnds : ByteArray := prog_10_method_23_code
def yX8_fileEnds : MethodName := ⟨RX8, "fileEnds", "()V"⟩
abbrev cX8_step : ByteArray := prog_10_method_24_code
def yX8_step : MethodName := ⟨RX8, "step", "()I"⟩
abbrev cX8_line : ByteArray := prog_10_method_25_code
def yX8_line : MethodName := ⟨RX8, "line", "()I"⟩
abbrev cX8_lineAt : ByteArray := prog_10_method_26_code
def yX8_lineAt : MethodName := ⟨RX8, "lineAt", "(I)I"⟩
abbrev cX8_state : ByteArray := prog_10_method_27_code
def yX8_state : MethodName := ⟨RX8, "state", "(I)I"⟩
abbrev cX8_received : ByteArray := prog_10_method_28_code
def yX8_received : MethodName := ⟨RX8, "received", "()I"⟩
abbrev cX8_size : ByteArray := prog_10_method_29_code
def yX8_size : MethodName := ⟨RX8, "size", "(I)I"⟩
abbrev cX8_byteAt : ByteArray := prog_10_method_30_code
def yX8_byteAt : MethodName := ⟨RX8, "byteAt", "(II)I"⟩
abbrev cX8_nameAt : ByteArray := prog_10_method_31_code
def yX8_nameAt : MethodName := ⟨RX8, "nameAt", "(II)I"⟩
def RJx29ce0 : String := "java/lang/Enum"
def TJx29ce0 : u_T := fun k => match k with
  | _ => ("", "", "", false)
def tyJx29ce0 : Nat → FieldType := fun k => match k with
  | _ => .int
abbrev wsJx29ce00 : List Cond := u_ws RJx29ce0 TJx29ce0 0
theorem nmJx29ce0 : ∀ a, a < 0 → ∀ b, b < 0 → a ≠ b → (TJx29ce0 a).2.1 ≠ (TJx29ce0 b).2.1 := by decide +kernel
theorem tyJx29ce0_ok : ∀ k, k < 0 → parseFieldDescriptor (TJx29ce0 k).2.2.1 = some (tyJx29ce0 k) := by decide +kernel
def RJ9 : String := "java/lang/Math"
def TJ9 : u_T := fun k => match k with
  | _ => ("", "", "", false)
def tyJ9 : Nat → FieldType := fun k => match k with
  | _ => .int
abbrev wsJ90 : List Cond := u_ws RJ9 TJ9 0
theorem nmJ9 : ∀ a, a < 0 → ∀ b, b < 0 → a ≠ b → (TJ9 a).2.1 ≠ (TJ9 b).2.1 := by decide +kernel
theorem tyJ9_ok : ∀ k, k < 0 → parseFieldDescriptor (TJ9 k).2.2.1 = some (tyJ9 k) := by decide +kernel
abbrev cJ9_floorMod_7cf53 : ByteArray := prog_13_method_50_code
def yJ9_floorMod_7cf53 : MethodName := ⟨RJ9, "floorMod", "(II)I"⟩
abbrev cJ9_min_7cf53 : ByteArray := prog_13_method_69_code
def yJ9_min_7cf53 : MethodName := ⟨RJ9, "min", "(II)I"⟩
def RJ10 : String := "java/lang/System"
def TJ10 : u_T := fun k => match k with
  | _ => ("", "", "", false)
def tyJ10 : Nat → FieldType := fun k => match k with
  | _ => .int
abbrev wsJ100 : List Cond := u_ws RJ10 TJ10 0
theorem nmJ10 : ∀ a, a < 0 → ∀ b, b < 0 → a ≠ b → (TJ10 a).2.1 ≠ (TJ10 b).2.1 := by decide +kernel
theorem tyJ10_ok : ∀ k, k < 0 → parseFieldDescriptor (TJ10 k).2.2.1 = some (tyJ10 k) := by decide +kernel
def RL : String := "BatchTransferLaw"
abbrev cL_lineAt : ByteArray := method_3_code
def yL_lineAt : MethodName := ⟨RL, "lineAt", "(LBatchTransfer;I[J)I"⟩
abbrev cL_byteAt : ByteArray := method_4_code
def yL_byteAt : MethodName := ⟨RL, "byteAt", "(LBatchTransfer;II[J)I"⟩
abbrev cL_law : ByteArray := code
def yL_law : MethodName := ⟨RL, "law", "([I)Z"⟩
def wsX3_init : List Cond := .code yX3_init cX3_init 1 none :: ([.methodLink RX3 3 objectInit, .instanceMethod objectInit, .code objectInit ⟨#[0xb1]⟩ 1 none])
def wsX2_init : List Cond := .code yX2_init cX2_init 2 none :: ([.methodLink RX2 3 objectInit, .instanceMethod objectInit, .code objectInit ⟨#[0xb1]⟩ 1 none, .arrayClass .byte, .fieldLink RX2 9 "BatchTransfer$Shelf" "names" "[B", .arrayClass .int, .fieldLink RX2 15 "BatchTransfer$Shelf" "nameLengths" "[I", .fieldLink RX2 19 "BatchTransfer$Shelf" "starts" "[I", .fieldLink RX2 22 "BatchTransfer$Shelf" "sizes" "[I", .fieldLink RX2 25 "BatchTransfer$Shelf" "data" "[B"] ++ wsX20)
def wsX0_init : List Cond := .code yX0_init cX0_init 1 none :: ([.classLink RX0 9 RX2, .instantiable RX2 6, .initialized RX2, .fieldLink RX0 14 "BatchTransfer$Receiver" "arrived" "LBatchTransfer$Shelf;", .instanceMethod yX3_init, .initialized RX3, .code yX3_init cX3_init 1 none, .methodLink RX3 3 objectInit, .instanceMethod objectInit, .code objectInit ⟨#[0xb1]⟩ 1 none, .methodLink RX0 11 yX2_init, .instanceMethod yX2_init, .code yX2_init cX2_init 2 none, .methodLink RX2 3 objectInit, .arrayClass .byte, .fieldLink RX2 9 "BatchTransfer$Shelf" "names" "[B", .arrayClass .int, .fieldLink RX2 15 "BatchTransfer$Shelf" "nameLengths" "[I", .fieldLink RX2 19 "BatchTransfer$Shelf" "starts" "[I", .fieldLink RX2 22 "BatchTransfer$Shelf" "sizes" "[I", .fieldLink RX2 25 "BatchTransfer$Shelf" "data" "[B"] ++ wsX20 ++ wsX00)
def wsX3_startWork : List Cond := .code yX3_startWork cX3_startWork 2 none :: ([.fieldLink RX3 28 "BatchTransfer$Side" "mode" "I", .fieldLink RX3 9 "BatchTransfer$Side" "outcome" "I", .fieldLink RX3 31 "BatchTransfer$Side" "misses" "I"] ++ wsX00 ++ wsX10)
def wsX0_expectHead : List Cond := .code yX0_expectHead cX0_expectHead 1 none :: ([.fieldLink RX0 76 "BatchTransfer$Receiver" "expected" "I", .fieldLink RX0 79 "BatchTransfer$Receiver" "headExpected" "Z"] ++ wsX00)
def wsX2_open : List Cond := .code yX2_open cX2_open 1 none :: ([.fieldLink RX2 28 "BatchTransfer$Shelf" "count" "I", .fieldLink RX2 19 "BatchTransfer$Shelf" "starts" "[I", .fieldLink RX2 22 "BatchTransfer$Shelf" "sizes" "[I", .fieldLink RX2 15 "BatchTransfer$Shelf" "nameLengths" "[I"] ++ wsX20)
def wsX0_expectBlocks : List Cond := .code yX0_expectBlocks cX0_expectBlocks 1 none :: ([.fieldLink RX0 76 "BatchTransfer$Receiver" "expected" "I", .fieldLink RX0 79 "BatchTransfer$Receiver" "headExpected" "Z"] ++ wsX00)
def wsX0_prepare_r1 : List Cond := [Cond.fieldLink RX0 14 "BatchTransfer$Receiver" "arrived" "LBatchTransfer$Shelf;", Cond.fieldLink RX0 23 "BatchTransfer$Shelf" "count" "I", Cond.fieldLink RX0 27 "BatchTransfer$Receiver" "anyWasRight" "Z", Cond.fieldLink RX0 31 "BatchTransfer$Receiver" "anyOfFileWasRight" "Z", Cond.methodLink RX0 20 ⟨"BatchTransfer$Receiver", "startWork", "(I)V"⟩, Cond.sameMethod "BatchTransfer$Receiver" "BatchTransfer$Side" "startWork" "(I)V", Cond.selects RX0 ⟨"BatchTransfer$Receiver", "startWork", "(I)V"⟩ yX3_startWork, Cond.instanceMethod yX3_startWork, Cond.initialized RX3, Cond.code yX3_startWork cX3_startWork 2 none, Cond.fieldLink RX3 28 "BatchTransfer$Side" "mode" "I", Cond.fieldLink RX3 9 "BatchTransfer$Side" "outcome" "I", Cond.fieldLink RX3 31 "BatchTransfer$Side" "misses" "I", Cond.methodLink RX0 34 yX0_expectHead, Cond.instanceMethod yX0_expectHead, Cond.selects RX0 yX0_expectHead yX0_expectHead, Cond.initialized RX0, Cond.code yX0_expectHead cX0_expectHead 1 none, Cond.fieldLink RX0 76 "BatchTransfer$Receiver" "expected" "I", Cond.fieldLink RX0 79 "BatchTransfer$Receiver" "headExpected" "Z", Cond.methodLink RX0 37 yX2_open, Cond.instanceMethod yX2_open, Cond.selects RX2 yX2_open yX2_open, Cond.initialized RX2]
def wsX0_prepare_r2 : List Cond := [Cond.code yX2_open cX2_open 1 none, Cond.fieldLink RX2 28 "BatchTransfer$Shelf" "count" "I", Cond.fieldLink RX2 19 "BatchTransfer$Shelf" "starts" "[I", Cond.fieldLink RX2 22 "BatchTransfer$Shelf" "sizes" "[I", Cond.fieldLink RX2 15 "BatchTransfer$Shelf" "nameLengths" "[I", Cond.methodLink RX0 40 yX0_expectBlocks, Cond.instanceMethod yX0_expectBlocks, Cond.selects RX0 yX0_expectBlocks yX0_expectBlocks, Cond.code yX0_expectBlocks cX0_expectBlocks 1 none]
def wsX0_prepare : List Cond := .code yX0_prepare cX0_prepare 2 none :: ((wsX0_prepare_r1 ++ wsX0_prepare_r2) ++ wsX00 ++ wsX20 ++ wsX10)
def wsX6_get : List Cond := .code yX6_get cX6_get 2 (some .int) :: ([.fieldLink RX6 9 "BatchTransfer$Wire" "bytes" "[B"] ++ wsX60)
def wsX6_dataLength : List Cond := .code yX6_dataLength cX6_dataLength 1 (some .int) :: ([.methodLink RX6 19 yX6_get, .instanceMethod yX6_get, .selects RX6 yX6_get yX6_get, .initialized RX6, .code yX6_get cX6_get 2 (some .int), .fieldLink RX6 9 "BatchTransfer$Wire" "bytes" "[B"] ++ wsX60)
def wsX6_sum : List Cond := .code yX6_sum cX6_sum 4 (some .int) :: ([.fieldLink RX6 9 "BatchTransfer$Wire" "bytes" "[B"] ++ wsX60)
def wsX6_crc : List Cond := .code yX6_crc cX6_crc 5 (some .int) :: ([.fieldLink RX6 9 "BatchTransfer$Wire" "bytes" "[B", .constant RX6 39 (65535)] ++ wsX60)
def wsX6_isRightBlock : List Cond := .code yX6_isRightBlock cX6_isRightBlock 4 (some .boolean) :: ([.fieldLink RX6 15 "BatchTransfer$Wire" "length" "I", .methodLink RX6 35 yX6_dataLength, .instanceMethod yX6_dataLength, .selects RX6 yX6_dataLength yX6_dataLength, .initialized RX6, .code yX6_dataLength cX6_dataLength 1 (some .int), .methodLink RX6 19 yX6_get, .instanceMethod yX6_get, .selects RX6 yX6_get yX6_get, .code yX6_get cX6_get 2 (some .int), .fieldLink RX6 9 "BatchTransfer$Wire" "bytes" "[B", .methodLink RX6 29 yX6_sum, .instanceMethod yX6_sum, .selects RX6 yX6_sum yX6_sum, .code yX6_sum cX6_sum 4 (some .int), .methodLink RX6 32 yX6_crc, .instanceMethod yX6_crc, .selects RX6 yX6_crc yX6_crc, .code yX6_crc cX6_crc 5 (some .int), .constant RX6 39 (65535)] ++ wsX60)
def wsX0_nameLengthIn : List Cond := .code yX0_nameLengthIn cX0_nameLengthIn 2 (some .int) :: ([.methodLink RX0 73 yX6_get, .instanceMethod yX6_get, .selects RX6 yX6_get yX6_get, .initialized RX6, .code yX6_get cX6_get 2 (some .int), .fieldLink RX6 9 "BatchTransfer$Wire" "bytes" "[B"] ++ wsX60)
def wsX2_nameLast : List Cond := .code yX2_nameLast cX2_nameLast 5 none :: ([.fieldLink RX2 28 "BatchTransfer$Shelf" "count" "I", .fieldLink RX2 9 "BatchTransfer$Shelf" "names" "[B", .methodLink RX2 32 arraycopyName, .native arraycopyName, .static arraycopyName, .initialized "java/lang/System", .fieldLink RX2 15 "BatchTransfer$Shelf" "nameLengths" "[I"] ++ wsX20)
def wsX0_numberIn : List Cond := .code yX0_numberIn cX0_numberIn 5 (some .int) :: ([.methodLink RX0 73 yX6_get, .instanceMethod yX6_get, .selects RX6 yX6_get yX6_get, .initialized RX6, .code yX6_get cX6_get 2 (some .int), .fieldLink RX6 9 "BatchTransfer$Wire" "bytes" "[B"] ++ wsX60)
def wsX0_takeHead_r1 : List Cond := [Cond.fieldLink RX0 104 "BatchTransfer$Receiver" "outcome" "I", Cond.sameField "BatchTransfer$Receiver" "BatchTransfer$Side" "outcome" "I", Cond.fieldLink RX0 14 "BatchTransfer$Receiver" "arrived" "LBatchTransfer$Shelf;", Cond.fieldLink RX0 107 "BatchTransfer$Wire" "bytes" "[B", Cond.fieldLink RX0 119 "BatchTransfer$Receiver" "sizeTold" "I", Cond.methodLink RX0 100 yX0_nameLengthIn, Cond.static yX0_nameLengthIn, Cond.initialized RX0, Cond.code yX0_nameLengthIn cX0_nameLengthIn 2 (some .int), Cond.methodLink RX0 73 yX6_get, Cond.instanceMethod yX6_get, Cond.selects RX6 yX6_get yX6_get, Cond.initialized RX6, Cond.code yX6_get cX6_get 2 (some .int), Cond.fieldLink RX6 9 "BatchTransfer$Wire" "bytes" "[B", Cond.methodLink RX0 37 yX2_open, Cond.instanceMethod yX2_open, Cond.selects RX2 yX2_open yX2_open, Cond.initialized RX2, Cond.code yX2_open cX2_open 1 none, Cond.fieldLink RX2 28 "BatchTransfer$Shelf" "count" "I", Cond.fieldLink RX2 19 "BatchTransfer$Shelf" "starts" "[I", Cond.fieldLink RX2 22 "BatchTransfer$Shelf" "sizes" "[I", Cond.fieldLink RX2 15 "BatchTransfer$Shelf" "nameLengths" "[I"]
def wsX0_takeHead_r2 : List Cond := [Cond.methodLink RX0 111 yX2_nameLast, Cond.instanceMethod yX2_nameLast, Cond.selects RX2 yX2_nameLast yX2_nameLast, Cond.code yX2_nameLast cX2_nameLast 5 none, Cond.fieldLink RX2 9 "BatchTransfer$Shelf" "names" "[B", Cond.methodLink RX2 32 arraycopyName, Cond.native arraycopyName, Cond.static arraycopyName, Cond.initialized "java/lang/System", Cond.methodLink RX0 115 yX0_numberIn, Cond.static yX0_numberIn, Cond.code yX0_numberIn cX0_numberIn 5 (some .int), Cond.methodLink RX0 40 yX0_expectBlocks, Cond.instanceMethod yX0_expectBlocks, Cond.selects RX0 yX0_expectBlocks yX0_expectBlocks, Cond.code yX0_expectBlocks cX0_expectBlocks 1 none, Cond.fieldLink RX0 76 "BatchTransfer$Receiver" "expected" "I", Cond.fieldLink RX0 79 "BatchTransfer$Receiver" "headExpected" "Z"]
def wsX0_takeHead : List Cond := .code yX0_takeHead cX0_takeHead 3 none :: ((wsX0_takeHead_r1 ++ wsX0_takeHead_r2) ++ wsX00 ++ wsX10 ++ wsX60 ++ wsX20)
def wsX2_extendLast : List Cond := .code yX2_extendLast cX2_extendLast 5 none :: ([.fieldLink RX2 28 "BatchTransfer$Shelf" "count" "I", .fieldLink RX2 19 "BatchTransfer$Shelf" "starts" "[I", .fieldLink RX2 22 "BatchTransfer$Shelf" "sizes" "[I", .fieldLink RX2 25 "BatchTransfer$Shelf" "data" "[B", .methodLink RX2 32 arraycopyName, .native arraycopyName, .static arraycopyName, .initialized "java/lang/System"] ++ wsX20)
def wsX0_takeData_r1 : List Cond := [Cond.fieldLink RX0 14 "BatchTransfer$Receiver" "arrived" "LBatchTransfer$Shelf;", Cond.fieldLink RX0 107 "BatchTransfer$Wire" "bytes" "[B", Cond.fieldLink RX0 76 "BatchTransfer$Receiver" "expected" "I", Cond.methodLink RX0 122 yX6_dataLength, Cond.instanceMethod yX6_dataLength, Cond.selects RX6 yX6_dataLength yX6_dataLength, Cond.initialized RX6, Cond.code yX6_dataLength cX6_dataLength 1 (some .int), Cond.methodLink RX6 19 yX6_get, Cond.instanceMethod yX6_get, Cond.selects RX6 yX6_get yX6_get, Cond.code yX6_get cX6_get 2 (some .int), Cond.fieldLink RX6 9 "BatchTransfer$Wire" "bytes" "[B", Cond.methodLink RX0 126 yX2_extendLast, Cond.instanceMethod yX2_extendLast, Cond.selects RX2 yX2_extendLast yX2_extendLast, Cond.initialized RX2, Cond.code yX2_extendLast cX2_extendLast 5 none, Cond.fieldLink RX2 28 "BatchTransfer$Shelf" "count" "I", Cond.fieldLink RX2 19 "BatchTransfer$Shelf" "starts" "[I", Cond.fieldLink RX2 22 "BatchTransfer$Shelf" "sizes" "[I", Cond.fieldLink RX2 25 "BatchTransfer$Shelf" "data" "[B", Cond.methodLink RX2 32 arraycopyName, Cond.native arraycopyName]
def wsX0_takeData_r2 : List Cond := [Cond.static arraycopyName, Cond.initialized "java/lang/System"]
def wsX0_takeData : List Cond := .code yX0_takeData cX0_takeData 2 none :: ((wsX0_takeData_r1 ++ wsX0_takeData_r2) ++ wsX00 ++ wsX60 ++ wsX20)
def wsX6_putByte : List Cond := .code yX6_putByte cX6_putByte 2 none :: ([.fieldLink RX6 9 "BatchTransfer$Wire" "bytes" "[B", .fieldLink RX6 15 "BatchTransfer$Wire" "length" "I"] ++ wsX60)
def wsX0_acknowledge : List Cond := .code yX0_acknowledge cX0_acknowledge 2 none :: ([.fieldLink RX0 97 "BatchTransfer$Receiver" "misses" "I", .sameField "BatchTransfer$Receiver" "BatchTransfer$Side" "misses" "I", .methodLink RX0 70 yX6_putByte, .instanceMethod yX6_putByte, .selects RX6 yX6_putByte yX6_putByte, .initialized RX6, .code yX6_putByte cX6_putByte 2 none, .fieldLink RX6 9 "BatchTransfer$Wire" "bytes" "[B", .fieldLink RX6 15 "BatchTransfer$Wire" "length" "I"] ++ wsX00 ++ wsX10 ++ wsX60)
def wsX3_giveUp : List Cond := .code yX3_giveUp cX3_giveUp 2 none :: ([.fieldLink RX3 9 "BatchTransfer$Side" "outcome" "I", .methodLink RX3 37 yX6_putByte, .instanceMethod yX6_putByte, .selects RX6 yX6_putByte yX6_putByte, .initialized RX6, .code yX6_putByte cX6_putByte 2 none, .fieldLink RX6 9 "BatchTransfer$Wire" "bytes" "[B", .fieldLink RX6 15 "BatchTransfer$Wire" "length" "I"] ++ wsX00 ++ wsX10 ++ wsX60)
def wsX0_answerBlock_r1 : List Cond := [Cond.fieldLink RX0 76 "BatchTransfer$Receiver" "expected" "I", Cond.fieldLink RX0 27 "BatchTransfer$Receiver" "anyWasRight" "Z", Cond.fieldLink RX0 31 "BatchTransfer$Receiver" "anyOfFileWasRight" "Z", Cond.fieldLink RX0 79 "BatchTransfer$Receiver" "headExpected" "Z", Cond.methodLink RX0 73 yX6_get, Cond.instanceMethod yX6_get, Cond.selects RX6 yX6_get yX6_get, Cond.initialized RX6, Cond.code yX6_get cX6_get 2 (some .int), Cond.fieldLink RX6 9 "BatchTransfer$Wire" "bytes" "[B", Cond.methodLink RX0 82 yX0_takeHead, Cond.instanceMethod yX0_takeHead, Cond.selects RX0 yX0_takeHead yX0_takeHead, Cond.initialized RX0, Cond.code yX0_takeHead cX0_takeHead 3 none, Cond.fieldLink RX0 104 "BatchTransfer$Receiver" "outcome" "I", Cond.sameField "BatchTransfer$Receiver" "BatchTransfer$Side" "outcome" "I", Cond.fieldLink RX0 14 "BatchTransfer$Receiver" "arrived" "LBatchTransfer$Shelf;", Cond.fieldLink RX0 107 "BatchTransfer$Wire" "bytes" "[B", Cond.fieldLink RX0 119 "BatchTransfer$Receiver" "sizeTold" "I", Cond.methodLink RX0 100 yX0_nameLengthIn, Cond.static yX0_nameLengthIn, Cond.code yX0_nameLengthIn cX0_nameLengthIn 2 (some .int), Cond.methodLink RX0 37 yX2_open]
def wsX0_answerBlock_r2 : List Cond := [Cond.instanceMethod yX2_open, Cond.selects RX2 yX2_open yX2_open, Cond.initialized RX2, Cond.code yX2_open cX2_open 1 none, Cond.fieldLink RX2 28 "BatchTransfer$Shelf" "count" "I", Cond.fieldLink RX2 19 "BatchTransfer$Shelf" "starts" "[I", Cond.fieldLink RX2 22 "BatchTransfer$Shelf" "sizes" "[I", Cond.fieldLink RX2 15 "BatchTransfer$Shelf" "nameLengths" "[I", Cond.methodLink RX0 111 yX2_nameLast, Cond.instanceMethod yX2_nameLast, Cond.selects RX2 yX2_nameLast yX2_nameLast, Cond.code yX2_nameLast cX2_nameLast 5 none, Cond.fieldLink RX2 9 "BatchTransfer$Shelf" "names" "[B", Cond.methodLink RX2 32 arraycopyName, Cond.native arraycopyName, Cond.static arraycopyName, Cond.initialized "java/lang/System", Cond.methodLink RX0 115 yX0_numberIn, Cond.static yX0_numberIn, Cond.code yX0_numberIn cX0_numberIn 5 (some .int), Cond.methodLink RX0 40 yX0_expectBlocks, Cond.instanceMethod yX0_expectBlocks, Cond.selects RX0 yX0_expectBlocks yX0_expectBlocks, Cond.code yX0_expectBlocks cX0_expectBlocks 1 none]
def wsX0_answerBlock_r3 : List Cond := [Cond.methodLink RX0 85 yX0_takeData, Cond.instanceMethod yX0_takeData, Cond.selects RX0 yX0_takeData yX0_takeData, Cond.code yX0_takeData cX0_takeData 2 none, Cond.methodLink RX0 122 yX6_dataLength, Cond.instanceMethod yX6_dataLength, Cond.selects RX6 yX6_dataLength yX6_dataLength, Cond.code yX6_dataLength cX6_dataLength 1 (some .int), Cond.methodLink RX6 19 yX6_get, Cond.methodLink RX0 126 yX2_extendLast, Cond.instanceMethod yX2_extendLast, Cond.selects RX2 yX2_extendLast yX2_extendLast, Cond.code yX2_extendLast cX2_extendLast 5 none, Cond.fieldLink RX2 25 "BatchTransfer$Shelf" "data" "[B", Cond.methodLink RX0 88 yX0_acknowledge, Cond.instanceMethod yX0_acknowledge, Cond.selects RX0 yX0_acknowledge yX0_acknowledge, Cond.code yX0_acknowledge cX0_acknowledge 2 none, Cond.fieldLink RX0 97 "BatchTransfer$Receiver" "misses" "I", Cond.sameField "BatchTransfer$Receiver" "BatchTransfer$Side" "misses" "I", Cond.methodLink RX0 70 yX6_putByte, Cond.instanceMethod yX6_putByte, Cond.selects RX6 yX6_putByte yX6_putByte, Cond.code yX6_putByte cX6_putByte 2 none]
def wsX0_answerBlock_r4 : List Cond := [Cond.fieldLink RX6 15 "BatchTransfer$Wire" "length" "I", Cond.methodLink RX0 91 ⟨"BatchTransfer$Receiver", "giveUp", "(LBatchTransfer$Wire;)V"⟩, Cond.sameMethod "BatchTransfer$Receiver" "BatchTransfer$Side" "giveUp" "(LBatchTransfer$Wire;)V", Cond.selects RX0 ⟨"BatchTransfer$Receiver", "giveUp", "(LBatchTransfer$Wire;)V"⟩ yX3_giveUp, Cond.instanceMethod yX3_giveUp, Cond.initialized RX3, Cond.code yX3_giveUp cX3_giveUp 2 none, Cond.fieldLink RX3 9 "BatchTransfer$Side" "outcome" "I", Cond.methodLink RX3 37 yX6_putByte]
def wsX0_answerBlock : List Cond := .code yX0_answerBlock cX0_answerBlock 3 none :: ((wsX0_answerBlock_r1 ++ (wsX0_answerBlock_r2 ++ (wsX0_answerBlock_r3 ++ wsX0_answerBlock_r4))) ++ wsX00 ++ wsX60 ++ wsX10 ++ wsX20)
def wsX6_isByte : List Cond := .code yX6_isByte cX6_isByte 2 (some .boolean) :: ([.fieldLink RX6 15 "BatchTransfer$Wire" "length" "I", .methodLink RX6 19 yX6_get, .instanceMethod yX6_get, .selects RX6 yX6_get yX6_get, .initialized RX6, .code yX6_get cX6_get 2 (some .int), .fieldLink RX6 9 "BatchTransfer$Wire" "bytes" "[B"] ++ wsX60)
def wsX2_cutLast : List Cond := .code yX2_cutLast cX2_cutLast 3 none :: ([.fieldLink RX2 28 "BatchTransfer$Shelf" "count" "I", .fieldLink RX2 22 "BatchTransfer$Shelf" "sizes" "[I"] ++ wsX20)
def wsX0_closeFile : List Cond := .code yX0_closeFile cX0_closeFile 1 none :: ([.fieldLink RX0 43 "BatchTransfer$Receiver" "mode" "I", .sameField "BatchTransfer$Receiver" "BatchTransfer$Side" "mode" "I", .fieldLink RX0 14 "BatchTransfer$Receiver" "arrived" "LBatchTransfer$Shelf;", .fieldLink RX0 119 "BatchTransfer$Receiver" "sizeTold" "I", .fieldLink RX0 31 "BatchTransfer$Receiver" "anyOfFileWasRight" "Z", .fieldLink RX0 104 "BatchTransfer$Receiver" "outcome" "I", .sameField "BatchTransfer$Receiver" "BatchTransfer$Side" "outcome" "I", .methodLink RX0 129 yX2_cutLast, .instanceMethod yX2_cutLast, .selects RX2 yX2_cutLast yX2_cutLast, .initialized RX2, .code yX2_cutLast cX2_cutLast 3 none, .fieldLink RX2 28 "BatchTransfer$Shelf" "count" "I", .fieldLink RX2 22 "BatchTransfer$Shelf" "sizes" "[I", .methodLink RX0 34 yX0_expectHead, .instanceMethod yX0_expectHead, .selects RX0 yX0_expectHead yX0_expectHead, .initialized RX0, .code yX0_expectHead cX0_expectHead 1 none, .fieldLink RX0 76 "BatchTransfer$Receiver" "expected" "I", .fieldLink RX0 79 "BatchTransfer$Receiver" "headExpected" "Z"] ++ wsX00 ++ wsX10 ++ wsX20)
def wsX0_answerEnd_r1 : List Cond := [Cond.fieldLink RX0 79 "BatchTransfer$Receiver" "headExpected" "Z", Cond.methodLink RX0 94 yX0_closeFile, Cond.instanceMethod yX0_closeFile, Cond.selects RX0 yX0_closeFile yX0_closeFile, Cond.initialized RX0, Cond.code yX0_closeFile cX0_closeFile 1 none, Cond.fieldLink RX0 43 "BatchTransfer$Receiver" "mode" "I", Cond.sameField "BatchTransfer$Receiver" "BatchTransfer$Side" "mode" "I", Cond.fieldLink RX0 14 "BatchTransfer$Receiver" "arrived" "LBatchTransfer$Shelf;", Cond.fieldLink RX0 119 "BatchTransfer$Receiver" "sizeTold" "I", Cond.fieldLink RX0 31 "BatchTransfer$Receiver" "anyOfFileWasRight" "Z", Cond.fieldLink RX0 104 "BatchTransfer$Receiver" "outcome" "I", Cond.sameField "BatchTransfer$Receiver" "BatchTransfer$Side" "outcome" "I", Cond.methodLink RX0 129 yX2_cutLast, Cond.instanceMethod yX2_cutLast, Cond.selects RX2 yX2_cutLast yX2_cutLast, Cond.initialized RX2, Cond.code yX2_cutLast cX2_cutLast 3 none, Cond.fieldLink RX2 28 "BatchTransfer$Shelf" "count" "I", Cond.fieldLink RX2 22 "BatchTransfer$Shelf" "sizes" "[I", Cond.methodLink RX0 34 yX0_expectHead, Cond.instanceMethod yX0_expectHead, Cond.selects RX0 yX0_expectHead yX0_expectHead, Cond.code yX0_expectHead cX0_expectHead 1 none]
def wsX0_answerEnd_r2 : List Cond := [Cond.fieldLink RX0 76 "BatchTransfer$Receiver" "expected" "I", Cond.methodLink RX0 88 yX0_acknowledge, Cond.instanceMethod yX0_acknowledge, Cond.selects RX0 yX0_acknowledge yX0_acknowledge, Cond.code yX0_acknowledge cX0_acknowledge 2 none, Cond.fieldLink RX0 97 "BatchTransfer$Receiver" "misses" "I", Cond.sameField "BatchTransfer$Receiver" "BatchTransfer$Side" "misses" "I", Cond.methodLink RX0 70 yX6_putByte, Cond.instanceMethod yX6_putByte, Cond.selects RX6 yX6_putByte yX6_putByte, Cond.initialized RX6, Cond.code yX6_putByte cX6_putByte 2 none, Cond.fieldLink RX6 9 "BatchTransfer$Wire" "bytes" "[B", Cond.fieldLink RX6 15 "BatchTransfer$Wire" "length" "I"]
def wsX0_answerEnd : List Cond := .code yX0_answerEnd cX0_answerEnd 2 none :: ((wsX0_answerEnd_r1 ++ wsX0_answerEnd_r2) ++ wsX00 ++ wsX10 ++ wsX20 ++ wsX60)
def wsX3_bearsMiss : List Cond := .code yX3_bearsMiss cX3_bearsMiss 2 (some .boolean) :: ([.fieldLink RX3 31 "BatchTransfer$Side" "misses" "I", .methodLink RX3 34 ⟨"BatchTransfer$Side", "giveUp", "(LBatchTransfer$Wire;)V"⟩, .sameMethod "BatchTransfer$Side" "BatchTransfer$Side" "giveUp" "(LBatchTransfer$Wire;)V", .selects RX0 ⟨"BatchTransfer$Side", "giveUp", "(LBatchTransfer$Wire;)V"⟩ yX3_giveUp, .instanceMethod yX3_giveUp, .initialized RX3, .code yX3_giveUp cX3_giveUp 2 none, .fieldLink RX3 9 "BatchTransfer$Side" "outcome" "I", .methodLink RX3 37 yX6_putByte, .instanceMethod yX6_putByte, .selects RX6 yX6_putByte yX6_putByte, .initialized RX6, .code yX6_putByte cX6_putByte 2 none, .fieldLink RX6 9 "BatchTransfer$Wire" "bytes" "[B", .fieldLink RX6 15 "BatchTransfer$Wire" "length" "I", .selects RX1 ⟨"BatchTransfer$Side", "giveUp", "(LBatchTransfer$Wire;)V"⟩ yX3_giveUp] ++ wsX00 ++ wsX10 ++ wsX60)
def wsX7_askOf : List Cond := .code yX7_askOf cX7_askOf 1 (some .int) :: ([])
def wsX0_answer_r1 : List Cond := [Cond.fieldLink RX0 43 "BatchTransfer$Receiver" "mode" "I", Cond.sameField "BatchTransfer$Receiver" "BatchTransfer$Side" "mode" "I", Cond.fieldLink RX0 27 "BatchTransfer$Receiver" "anyWasRight" "Z", Cond.methodLink RX0 46 yX6_isRightBlock, Cond.instanceMethod yX6_isRightBlock, Cond.selects RX6 yX6_isRightBlock yX6_isRightBlock, Cond.initialized RX6, Cond.code yX6_isRightBlock cX6_isRightBlock 4 (some .boolean), Cond.fieldLink RX6 15 "BatchTransfer$Wire" "length" "I", Cond.methodLink RX6 35 yX6_dataLength, Cond.instanceMethod yX6_dataLength, Cond.selects RX6 yX6_dataLength yX6_dataLength, Cond.code yX6_dataLength cX6_dataLength 1 (some .int), Cond.methodLink RX6 19 yX6_get, Cond.instanceMethod yX6_get, Cond.selects RX6 yX6_get yX6_get, Cond.code yX6_get cX6_get 2 (some .int), Cond.fieldLink RX6 9 "BatchTransfer$Wire" "bytes" "[B", Cond.methodLink RX6 29 yX6_sum, Cond.instanceMethod yX6_sum, Cond.selects RX6 yX6_sum yX6_sum, Cond.code yX6_sum cX6_sum 4 (some .int), Cond.methodLink RX6 32 yX6_crc, Cond.instanceMethod yX6_crc]
def wsX0_answer_r2 : List Cond := [Cond.selects RX6 yX6_crc yX6_crc, Cond.code yX6_crc cX6_crc 5 (some .int), Cond.constant RX6 39 (65535), Cond.methodLink RX0 52 yX0_answerBlock, Cond.instanceMethod yX0_answerBlock, Cond.selects RX0 yX0_answerBlock yX0_answerBlock, Cond.initialized RX0, Cond.code yX0_answerBlock cX0_answerBlock 3 none, Cond.fieldLink RX0 76 "BatchTransfer$Receiver" "expected" "I", Cond.fieldLink RX0 31 "BatchTransfer$Receiver" "anyOfFileWasRight" "Z", Cond.fieldLink RX0 79 "BatchTransfer$Receiver" "headExpected" "Z", Cond.methodLink RX0 73 yX6_get, Cond.methodLink RX0 82 yX0_takeHead, Cond.instanceMethod yX0_takeHead, Cond.selects RX0 yX0_takeHead yX0_takeHead, Cond.code yX0_takeHead cX0_takeHead 3 none, Cond.fieldLink RX0 104 "BatchTransfer$Receiver" "outcome" "I", Cond.sameField "BatchTransfer$Receiver" "BatchTransfer$Side" "outcome" "I", Cond.fieldLink RX0 14 "BatchTransfer$Receiver" "arrived" "LBatchTransfer$Shelf;", Cond.fieldLink RX0 107 "BatchTransfer$Wire" "bytes" "[B", Cond.fieldLink RX0 119 "BatchTransfer$Receiver" "sizeTold" "I", Cond.methodLink RX0 100 yX0_nameLengthIn, Cond.static yX0_nameLengthIn, Cond.code yX0_nameLengthIn cX0_nameLengthIn 2 (some .int)]
def wsX0_answer_r3 : List Cond := [Cond.methodLink RX0 37 yX2_open, Cond.instanceMethod yX2_open, Cond.selects RX2 yX2_open yX2_open, Cond.initialized RX2, Cond.code yX2_open cX2_open 1 none, Cond.fieldLink RX2 28 "BatchTransfer$Shelf" "count" "I", Cond.fieldLink RX2 19 "BatchTransfer$Shelf" "starts" "[I", Cond.fieldLink RX2 22 "BatchTransfer$Shelf" "sizes" "[I", Cond.fieldLink RX2 15 "BatchTransfer$Shelf" "nameLengths" "[I", Cond.methodLink RX0 111 yX2_nameLast, Cond.instanceMethod yX2_nameLast, Cond.selects RX2 yX2_nameLast yX2_nameLast, Cond.code yX2_nameLast cX2_nameLast 5 none, Cond.fieldLink RX2 9 "BatchTransfer$Shelf" "names" "[B", Cond.methodLink RX2 32 arraycopyName, Cond.native arraycopyName, Cond.static arraycopyName, Cond.initialized "java/lang/System", Cond.methodLink RX0 115 yX0_numberIn, Cond.static yX0_numberIn, Cond.code yX0_numberIn cX0_numberIn 5 (some .int), Cond.methodLink RX0 40 yX0_expectBlocks, Cond.instanceMethod yX0_expectBlocks, Cond.selects RX0 yX0_expectBlocks yX0_expectBlocks]
def wsX0_answer_r4 : List Cond := [Cond.code yX0_expectBlocks cX0_expectBlocks 1 none, Cond.methodLink RX0 85 yX0_takeData, Cond.instanceMethod yX0_takeData, Cond.selects RX0 yX0_takeData yX0_takeData, Cond.code yX0_takeData cX0_takeData 2 none, Cond.methodLink RX0 122 yX6_dataLength, Cond.methodLink RX0 126 yX2_extendLast, Cond.instanceMethod yX2_extendLast, Cond.selects RX2 yX2_extendLast yX2_extendLast, Cond.code yX2_extendLast cX2_extendLast 5 none, Cond.fieldLink RX2 25 "BatchTransfer$Shelf" "data" "[B", Cond.methodLink RX0 88 yX0_acknowledge, Cond.instanceMethod yX0_acknowledge, Cond.selects RX0 yX0_acknowledge yX0_acknowledge, Cond.code yX0_acknowledge cX0_acknowledge 2 none, Cond.fieldLink RX0 97 "BatchTransfer$Receiver" "misses" "I", Cond.sameField "BatchTransfer$Receiver" "BatchTransfer$Side" "misses" "I", Cond.methodLink RX0 70 yX6_putByte, Cond.instanceMethod yX6_putByte, Cond.selects RX6 yX6_putByte yX6_putByte, Cond.code yX6_putByte cX6_putByte 2 none, Cond.methodLink RX0 91 ⟨"BatchTransfer$Receiver", "giveUp", "(LBatchTransfer$Wire;)V"⟩, Cond.sameMethod "BatchTransfer$Receiver" "BatchTransfer$Side" "giveUp" "(LBatchTransfer$Wire;)V", Cond.selects RX0 ⟨"BatchTransfer$Receiver", "giveUp", "(LBatchTransfer$Wire;)V"⟩ yX3_giveUp]
def wsX0_answer_r5 : List Cond := [Cond.instanceMethod yX3_giveUp, Cond.initialized RX3, Cond.code yX3_giveUp cX3_giveUp 2 none, Cond.fieldLink RX3 9 "BatchTransfer$Side" "outcome" "I", Cond.methodLink RX3 37 yX6_putByte, Cond.methodLink RX0 56 yX6_isByte, Cond.instanceMethod yX6_isByte, Cond.selects RX6 yX6_isByte yX6_isByte, Cond.code yX6_isByte cX6_isByte 2 (some .boolean), Cond.methodLink RX0 59 yX0_answerEnd, Cond.instanceMethod yX0_answerEnd, Cond.selects RX0 yX0_answerEnd yX0_answerEnd, Cond.code yX0_answerEnd cX0_answerEnd 2 none, Cond.methodLink RX0 94 yX0_closeFile, Cond.instanceMethod yX0_closeFile, Cond.selects RX0 yX0_closeFile yX0_closeFile, Cond.code yX0_closeFile cX0_closeFile 1 none, Cond.methodLink RX0 129 yX2_cutLast, Cond.instanceMethod yX2_cutLast, Cond.selects RX2 yX2_cutLast yX2_cutLast, Cond.code yX2_cutLast cX2_cutLast 3 none, Cond.methodLink RX0 34 yX0_expectHead, Cond.instanceMethod yX0_expectHead, Cond.selects RX0 yX0_expectHead yX0_expectHead]
def wsX0_answer_r6 : List Cond := [Cond.code yX0_expectHead cX0_expectHead 1 none, Cond.methodLink RX0 62 ⟨"BatchTransfer$Receiver", "bearsMiss", "(LBatchTransfer$Wire;)Z"⟩, Cond.sameMethod "BatchTransfer$Receiver" "BatchTransfer$Side" "bearsMiss" "(LBatchTransfer$Wire;)Z", Cond.selects RX0 ⟨"BatchTransfer$Receiver", "bearsMiss", "(LBatchTransfer$Wire;)Z"⟩ yX3_bearsMiss, Cond.instanceMethod yX3_bearsMiss, Cond.code yX3_bearsMiss cX3_bearsMiss 2 (some .boolean), Cond.fieldLink RX3 31 "BatchTransfer$Side" "misses" "I", Cond.methodLink RX3 34 ⟨"BatchTransfer$Side", "giveUp", "(LBatchTransfer$Wire;)V"⟩, Cond.sameMethod "BatchTransfer$Side" "BatchTransfer$Side" "giveUp" "(LBatchTransfer$Wire;)V", Cond.selects RX0 ⟨"BatchTransfer$Side", "giveUp", "(LBatchTransfer$Wire;)V"⟩ yX3_giveUp, Cond.selects RX1 ⟨"BatchTransfer$Side", "giveUp", "(LBatchTransfer$Wire;)V"⟩ yX3_giveUp, Cond.static yX7_askOf, Cond.initialized RX7, Cond.code yX7_askOf cX7_askOf 1 (some .int)]
def wsX0_answer : List Cond := .code yX0_answer cX0_answer 2 none :: ((wsX0_answer_r1 ++ (wsX0_answer_r2 ++ (wsX0_answer_r3 ++ (wsX0_answer_r4 ++ (wsX0_answer_r5 ++ wsX0_answer_r6))))) ++ wsX00 ++ wsX10 ++ wsX60 ++ wsX20)
def wsX1_init : List Cond := .code yX1_init cX1_init 1 none :: ([.classLink RX1 9 RX2, .instantiable RX2 6, .initialized RX2, .fieldLink RX1 14 "BatchTransfer$Sender" "files" "LBatchTransfer$Shelf;", .fieldLink RX1 20 "BatchTransfer$Unit" "HEAD" "LBatchTransfer$Unit;", .fieldLink RX1 26 "BatchTransfer$Sender" "unit" "LBatchTransfer$Unit;", .instanceMethod yX3_init, .initialized RX3, .code yX3_init cX3_init 1 none, .methodLink RX3 3 objectInit, .instanceMethod objectInit, .code objectInit ⟨#[0xb1]⟩ 1 none, .methodLink RX1 11 yX2_init, .instanceMethod yX2_init, .code yX2_init cX2_init 2 none, .methodLink RX2 3 objectInit, .arrayClass .byte, .fieldLink RX2 9 "BatchTransfer$Shelf" "names" "[B", .arrayClass .int, .fieldLink RX2 15 "BatchTransfer$Shelf" "nameLengths" "[I", .fieldLink RX2 19 "BatchTransfer$Shelf" "starts" "[I", .fieldLink RX2 22 "BatchTransfer$Shelf" "sizes" "[I", .fieldLink RX2 25 "BatchTransfer$Shelf" "data" "[B"] ++ wsX20 ++ wsX10)
def wsX2_has : List Cond := .code yX2_has cX2_has 2 (some .boolean) :: ([.fieldLink RX2 28 "BatchTransfer$Shelf" "count" "I"] ++ wsX20)
def wsX1_goIntoFile : List Cond := .code yX1_goIntoFile cX1_goIntoFile 1 none :: ([.fieldLink RX1 14 "BatchTransfer$Sender" "files" "LBatchTransfer$Shelf;", .fieldLink RX1 36 "BatchTransfer$Sender" "current" "I", .fieldLink RX1 85 "BatchTransfer$Sender" "outcome" "I", .sameField "BatchTransfer$Sender" "BatchTransfer$Side" "outcome" "I", .fieldLink RX1 88 "BatchTransfer$Sender" "number" "I", .fieldLink RX1 91 "BatchTransfer$Shelf" "starts" "[I", .fieldLink RX1 95 "BatchTransfer$Sender" "offset" "I", .fieldLink RX1 98 "BatchTransfer$Shelf" "sizes" "[I", .fieldLink RX1 101 "BatchTransfer$Sender" "left" "I", .fieldLink RX1 73 "BatchTransfer$Unit" "BLOCK" "LBatchTransfer$Unit;", .fieldLink RX1 104 "BatchTransfer$Unit" "END" "LBatchTransfer$Unit;", .fieldLink RX1 26 "BatchTransfer$Sender" "unit" "LBatchTransfer$Unit;", .methodLink RX1 82 yX2_has, .instanceMethod yX2_has, .selects RX2 yX2_has yX2_has, .initialized RX2, .code yX2_has cX2_has 2 (some .boolean), .fieldLink RX2 28 "BatchTransfer$Shelf" "count" "I"] ++ wsX10 ++ wsX00 ++ wsX20)
def wsX1_prepare_r1 : List Cond := [Cond.fieldLink RX1 32 "BatchTransfer$Sender" "asked" "Z", Cond.fieldLink RX1 36 "BatchTransfer$Sender" "current" "I", Cond.fieldLink RX1 20 "BatchTransfer$Unit" "HEAD" "LBatchTransfer$Unit;", Cond.fieldLink RX1 26 "BatchTransfer$Sender" "unit" "LBatchTransfer$Unit;", Cond.methodLink RX1 29 ⟨"BatchTransfer$Sender", "startWork", "(I)V"⟩, Cond.sameMethod "BatchTransfer$Sender" "BatchTransfer$Side" "startWork" "(I)V", Cond.selects RX1 ⟨"BatchTransfer$Sender", "startWork", "(I)V"⟩ yX3_startWork, Cond.instanceMethod yX3_startWork, Cond.initialized RX3, Cond.code yX3_startWork cX3_startWork 2 none, Cond.fieldLink RX3 28 "BatchTransfer$Side" "mode" "I", Cond.fieldLink RX3 9 "BatchTransfer$Side" "outcome" "I", Cond.fieldLink RX3 31 "BatchTransfer$Side" "misses" "I", Cond.methodLink RX1 40 yX1_goIntoFile, Cond.instanceMethod yX1_goIntoFile, Cond.selects RX1 yX1_goIntoFile yX1_goIntoFile, Cond.initialized RX1, Cond.code yX1_goIntoFile cX1_goIntoFile 1 none, Cond.fieldLink RX1 14 "BatchTransfer$Sender" "files" "LBatchTransfer$Shelf;", Cond.fieldLink RX1 85 "BatchTransfer$Sender" "outcome" "I", Cond.sameField "BatchTransfer$Sender" "BatchTransfer$Side" "outcome" "I", Cond.fieldLink RX1 88 "BatchTransfer$Sender" "number" "I", Cond.fieldLink RX1 91 "BatchTransfer$Shelf" "starts" "[I", Cond.fieldLink RX1 95 "BatchTransfer$Sender" "offset" "I"]
def wsX1_prepare_r2 : List Cond := [Cond.fieldLink RX1 98 "BatchTransfer$Shelf" "sizes" "[I", Cond.fieldLink RX1 101 "BatchTransfer$Sender" "left" "I", Cond.fieldLink RX1 73 "BatchTransfer$Unit" "BLOCK" "LBatchTransfer$Unit;", Cond.fieldLink RX1 104 "BatchTransfer$Unit" "END" "LBatchTransfer$Unit;", Cond.methodLink RX1 82 yX2_has, Cond.instanceMethod yX2_has, Cond.selects RX2 yX2_has yX2_has, Cond.initialized RX2, Cond.code yX2_has cX2_has 2 (some .boolean), Cond.fieldLink RX2 28 "BatchTransfer$Shelf" "count" "I"]
def wsX1_prepare : List Cond := .code yX1_prepare cX1_prepare 2 none :: ((wsX1_prepare_r1 ++ wsX1_prepare_r2) ++ wsX10 ++ wsX00 ++ wsX20)
def wsX6_empty : List Cond := .code yX6_empty cX6_empty 1 none :: ([.fieldLink RX6 15 "BatchTransfer$Wire" "length" "I"] ++ wsX60)
def wsX6_openBlock : List Cond := .code yX6_openBlock cX6_openBlock 5 none :: ([.fieldLink RX6 9 "BatchTransfer$Wire" "bytes" "[B", .fieldLink RX6 15 "BatchTransfer$Wire" "length" "I"] ++ wsX60)
def wsX1_putDigits : List Cond := .code yX1_putDigits cX1_putDigits 5 none :: ([.fieldLink RX1 137 "BatchTransfer$Wire" "bytes" "[B"] ++ wsX60)
def wsX6_sealBlock : List Cond := .code yX6_sealBlock cX6_sealBlock 3 none :: ([.fieldLink RX6 9 "BatchTransfer$Wire" "bytes" "[B", .fieldLink RX6 15 "BatchTransfer$Wire" "length" "I", .methodLink RX6 29 yX6_sum, .instanceMethod yX6_sum, .selects RX6 yX6_sum yX6_sum, .initialized RX6, .code yX6_sum cX6_sum 4 (some .int), .methodLink RX6 32 yX6_crc, .instanceMethod yX6_crc, .selects RX6 yX6_crc yX6_crc, .code yX6_crc cX6_crc 5 (some .int), .constant RX6 39 (65535)] ++ wsX60)
def wsX1_putHead_r1 : List Cond := [Cond.fieldLink RX1 14 "BatchTransfer$Sender" "files" "LBatchTransfer$Shelf;", Cond.fieldLink RX1 36 "BatchTransfer$Sender" "current" "I", Cond.fieldLink RX1 130 "BatchTransfer$Shelf" "nameLengths" "[I", Cond.fieldLink RX1 133 "BatchTransfer$Shelf" "names" "[B", Cond.fieldLink RX1 137 "BatchTransfer$Wire" "bytes" "[B", Cond.methodLink RX1 140 arraycopyName, Cond.native arraycopyName, Cond.static arraycopyName, Cond.initialized "java/lang/System", Cond.fieldLink RX1 98 "BatchTransfer$Shelf" "sizes" "[I", Cond.fieldLink RX1 43 "BatchTransfer$Sender" "mode" "I", Cond.sameField "BatchTransfer$Sender" "BatchTransfer$Side" "mode" "I", Cond.methodLink RX1 126 yX6_openBlock, Cond.instanceMethod yX6_openBlock, Cond.selects RX6 yX6_openBlock yX6_openBlock, Cond.initialized RX6, Cond.code yX6_openBlock cX6_openBlock 5 none, Cond.fieldLink RX6 9 "BatchTransfer$Wire" "bytes" "[B", Cond.fieldLink RX6 15 "BatchTransfer$Wire" "length" "I", Cond.methodLink RX1 82 yX2_has, Cond.instanceMethod yX2_has, Cond.selects RX2 yX2_has yX2_has, Cond.initialized RX2, Cond.code yX2_has cX2_has 2 (some .boolean)]
def wsX1_putHead_r2 : List Cond := [Cond.fieldLink RX2 28 "BatchTransfer$Shelf" "count" "I", Cond.methodLink RX1 146 yX1_putDigits, Cond.static yX1_putDigits, Cond.initialized RX1, Cond.code yX1_putDigits cX1_putDigits 5 none, Cond.methodLink RX1 150 yX6_sealBlock, Cond.instanceMethod yX6_sealBlock, Cond.selects RX6 yX6_sealBlock yX6_sealBlock, Cond.code yX6_sealBlock cX6_sealBlock 3 none, Cond.methodLink RX6 29 yX6_sum, Cond.instanceMethod yX6_sum, Cond.selects RX6 yX6_sum yX6_sum, Cond.code yX6_sum cX6_sum 4 (some .int), Cond.methodLink RX6 32 yX6_crc, Cond.instanceMethod yX6_crc, Cond.selects RX6 yX6_crc yX6_crc, Cond.code yX6_crc cX6_crc 5 (some .int), Cond.constant RX6 39 (65535)]
def wsX1_putHead : List Cond := .code yX1_putHead cX1_putHead 3 none :: ((wsX1_putHead_r1 ++ wsX1_putHead_r2) ++ wsX10 ++ wsX20 ++ wsX60 ++ wsX00)
def wsX1_blockLength : List Cond := .code yX1_blockLength cX1_blockLength 1 (some .int) :: ([.fieldLink RX1 43 "BatchTransfer$Sender" "mode" "I", .sameField "BatchTransfer$Sender" "BatchTransfer$Side" "mode" "I", .fieldLink RX1 101 "BatchTransfer$Sender" "left" "I"] ++ wsX00 ++ wsX10)
def wsX1_putBlock_r1 : List Cond := [Cond.fieldLink RX1 88 "BatchTransfer$Sender" "number" "I", Cond.fieldLink RX1 14 "BatchTransfer$Sender" "files" "LBatchTransfer$Shelf;", Cond.fieldLink RX1 153 "BatchTransfer$Shelf" "data" "[B", Cond.fieldLink RX1 95 "BatchTransfer$Sender" "offset" "I", Cond.fieldLink RX1 137 "BatchTransfer$Wire" "bytes" "[B", Cond.fieldLink RX1 101 "BatchTransfer$Sender" "left" "I", Cond.methodLink RX1 111 Lib.Math.min.name, Cond.static Lib.Math.min.name, Cond.initialized "java/lang/Math", Cond.code Lib.Math.min.name Lib.Math.min.code 2 (some .int), Cond.methodLink RX1 140 arraycopyName, Cond.native arraycopyName, Cond.static arraycopyName, Cond.initialized "java/lang/System", Cond.fieldLink RX1 43 "BatchTransfer$Sender" "mode" "I", Cond.sameField "BatchTransfer$Sender" "BatchTransfer$Side" "mode" "I", Cond.methodLink RX1 107 yX1_blockLength, Cond.instanceMethod yX1_blockLength, Cond.selects RX1 yX1_blockLength yX1_blockLength, Cond.initialized RX1, Cond.code yX1_blockLength cX1_blockLength 1 (some .int), Cond.methodLink RX1 126 yX6_openBlock, Cond.instanceMethod yX6_openBlock, Cond.selects RX6 yX6_openBlock yX6_openBlock]
def wsX1_putBlock_r2 : List Cond := [Cond.initialized RX6, Cond.code yX6_openBlock cX6_openBlock 5 none, Cond.fieldLink RX6 9 "BatchTransfer$Wire" "bytes" "[B", Cond.fieldLink RX6 15 "BatchTransfer$Wire" "length" "I", Cond.methodLink RX1 150 yX6_sealBlock, Cond.instanceMethod yX6_sealBlock, Cond.selects RX6 yX6_sealBlock yX6_sealBlock, Cond.code yX6_sealBlock cX6_sealBlock 3 none, Cond.methodLink RX6 29 yX6_sum, Cond.instanceMethod yX6_sum, Cond.selects RX6 yX6_sum yX6_sum, Cond.code yX6_sum cX6_sum 4 (some .int), Cond.methodLink RX6 32 yX6_crc, Cond.instanceMethod yX6_crc, Cond.selects RX6 yX6_crc yX6_crc, Cond.code yX6_crc cX6_crc 5 (some .int), Cond.constant RX6 39 (65535)]
def wsX1_putBlock : List Cond := .code yX1_putBlock cX1_putBlock 3 none :: ((wsX1_putBlock_r1 ++ wsX1_putBlock_r2) ++ wsX10 ++ wsX20 ++ wsX60 ++ wsX00)
def wsX1_putUnit_r1 : List Cond := [Cond.fieldLink RX1 85 "BatchTransfer$Sender" "outcome" "I", Cond.sameField "BatchTransfer$Sender" "BatchTransfer$Side" "outcome" "I", Cond.fieldLink RX1 26 "BatchTransfer$Sender" "unit" "LBatchTransfer$Unit;", Cond.fieldLink RX1 20 "BatchTransfer$Unit" "HEAD" "LBatchTransfer$Unit;", Cond.fieldLink RX1 73 "BatchTransfer$Unit" "BLOCK" "LBatchTransfer$Unit;", Cond.methodLink RX1 117 yX6_empty, Cond.instanceMethod yX6_empty, Cond.selects RX6 yX6_empty yX6_empty, Cond.initialized RX6, Cond.code yX6_empty cX6_empty 1 none, Cond.fieldLink RX6 15 "BatchTransfer$Wire" "length" "I", Cond.methodLink RX1 120 yX1_putHead, Cond.instanceMethod yX1_putHead, Cond.selects RX1 yX1_putHead yX1_putHead, Cond.initialized RX1, Cond.code yX1_putHead cX1_putHead 3 none, Cond.fieldLink RX1 14 "BatchTransfer$Sender" "files" "LBatchTransfer$Shelf;", Cond.fieldLink RX1 36 "BatchTransfer$Sender" "current" "I", Cond.fieldLink RX1 130 "BatchTransfer$Shelf" "nameLengths" "[I", Cond.fieldLink RX1 133 "BatchTransfer$Shelf" "names" "[B", Cond.fieldLink RX1 137 "BatchTransfer$Wire" "bytes" "[B", Cond.methodLink RX1 140 arraycopyName, Cond.native arraycopyName, Cond.static arraycopyName]
def wsX1_putUnit_r2 : List Cond := [Cond.initialized "java/lang/System", Cond.fieldLink RX1 98 "BatchTransfer$Shelf" "sizes" "[I", Cond.fieldLink RX1 43 "BatchTransfer$Sender" "mode" "I", Cond.sameField "BatchTransfer$Sender" "BatchTransfer$Side" "mode" "I", Cond.methodLink RX1 126 yX6_openBlock, Cond.instanceMethod yX6_openBlock, Cond.selects RX6 yX6_openBlock yX6_openBlock, Cond.code yX6_openBlock cX6_openBlock 5 none, Cond.fieldLink RX6 9 "BatchTransfer$Wire" "bytes" "[B", Cond.methodLink RX1 82 yX2_has, Cond.instanceMethod yX2_has, Cond.selects RX2 yX2_has yX2_has, Cond.initialized RX2, Cond.code yX2_has cX2_has 2 (some .boolean), Cond.fieldLink RX2 28 "BatchTransfer$Shelf" "count" "I", Cond.methodLink RX1 146 yX1_putDigits, Cond.static yX1_putDigits, Cond.code yX1_putDigits cX1_putDigits 5 none, Cond.methodLink RX1 150 yX6_sealBlock, Cond.instanceMethod yX6_sealBlock, Cond.selects RX6 yX6_sealBlock yX6_sealBlock, Cond.code yX6_sealBlock cX6_sealBlock 3 none, Cond.methodLink RX6 29 yX6_sum, Cond.instanceMethod yX6_sum]
def wsX1_putUnit_r3 : List Cond := [Cond.selects RX6 yX6_sum yX6_sum, Cond.code yX6_sum cX6_sum 4 (some .int), Cond.methodLink RX6 32 yX6_crc, Cond.instanceMethod yX6_crc, Cond.selects RX6 yX6_crc yX6_crc, Cond.code yX6_crc cX6_crc 5 (some .int), Cond.constant RX6 39 (65535), Cond.methodLink RX1 123 yX1_putBlock, Cond.instanceMethod yX1_putBlock, Cond.selects RX1 yX1_putBlock yX1_putBlock, Cond.code yX1_putBlock cX1_putBlock 3 none, Cond.fieldLink RX1 88 "BatchTransfer$Sender" "number" "I", Cond.fieldLink RX1 153 "BatchTransfer$Shelf" "data" "[B", Cond.fieldLink RX1 95 "BatchTransfer$Sender" "offset" "I", Cond.fieldLink RX1 101 "BatchTransfer$Sender" "left" "I", Cond.methodLink RX1 111 Lib.Math.min.name, Cond.static Lib.Math.min.name, Cond.initialized "java/lang/Math", Cond.code Lib.Math.min.name Lib.Math.min.code 2 (some .int), Cond.methodLink RX1 107 yX1_blockLength, Cond.instanceMethod yX1_blockLength, Cond.selects RX1 yX1_blockLength yX1_blockLength, Cond.code yX1_blockLength cX1_blockLength 1 (some .int), Cond.methodLink RX1 70 yX6_putByte]
def wsX1_putUnit_r4 : List Cond := [Cond.instanceMethod yX6_putByte, Cond.selects RX6 yX6_putByte yX6_putByte, Cond.code yX6_putByte cX6_putByte 2 none]
def wsX1_putUnit : List Cond := .code yX1_putUnit cX1_putUnit 2 none :: ((wsX1_putUnit_r1 ++ (wsX1_putUnit_r2 ++ (wsX1_putUnit_r3 ++ wsX1_putUnit_r4))) ++ wsX00 ++ wsX10 ++ wsX60 ++ wsX20)
def wsX1_goBehindBlock : List Cond := .code yX1_goBehindBlock cX1_goBehindBlock 2 none :: ([.fieldLink RX1 101 "BatchTransfer$Sender" "left" "I", .methodLink RX1 111 Lib.Math.min.name, .static Lib.Math.min.name, .initialized "java/lang/Math", .code Lib.Math.min.name Lib.Math.min.code 2 (some .int), .fieldLink RX1 88 "BatchTransfer$Sender" "number" "I", .fieldLink RX1 95 "BatchTransfer$Sender" "offset" "I", .fieldLink RX1 73 "BatchTransfer$Unit" "BLOCK" "LBatchTransfer$Unit;", .fieldLink RX1 104 "BatchTransfer$Unit" "END" "LBatchTransfer$Unit;", .fieldLink RX1 26 "BatchTransfer$Sender" "unit" "LBatchTransfer$Unit;", .methodLink RX1 107 yX1_blockLength, .instanceMethod yX1_blockLength, .selects RX1 yX1_blockLength yX1_blockLength, .initialized RX1, .code yX1_blockLength cX1_blockLength 1 (some .int), .fieldLink RX1 43 "BatchTransfer$Sender" "mode" "I", .sameField "BatchTransfer$Sender" "BatchTransfer$Side" "mode" "I"] ++ wsX10 ++ wsX00)
def wsX1_goBehindFile : List Cond := .code yX1_goBehindFile cX1_goBehindFile 1 none :: ([.fieldLink RX1 43 "BatchTransfer$Sender" "mode" "I", .sameField "BatchTransfer$Sender" "BatchTransfer$Side" "mode" "I", .fieldLink RX1 36 "BatchTransfer$Sender" "current" "I", .fieldLink RX1 20 "BatchTransfer$Unit" "HEAD" "LBatchTransfer$Unit;", .fieldLink RX1 26 "BatchTransfer$Sender" "unit" "LBatchTransfer$Unit;", .fieldLink RX1 85 "BatchTransfer$Sender" "outcome" "I", .sameField "BatchTransfer$Sender" "BatchTransfer$Side" "outcome" "I"] ++ wsX00 ++ wsX10)
def wsX1_goToNextUnit_r1 : List Cond := [Cond.fieldLink RX1 26 "BatchTransfer$Sender" "unit" "LBatchTransfer$Unit;", Cond.fieldLink RX1 20 "BatchTransfer$Unit" "HEAD" "LBatchTransfer$Unit;", Cond.fieldLink RX1 73 "BatchTransfer$Unit" "BLOCK" "LBatchTransfer$Unit;", Cond.methodLink RX1 40 yX1_goIntoFile, Cond.instanceMethod yX1_goIntoFile, Cond.selects RX1 yX1_goIntoFile yX1_goIntoFile, Cond.initialized RX1, Cond.code yX1_goIntoFile cX1_goIntoFile 1 none, Cond.fieldLink RX1 14 "BatchTransfer$Sender" "files" "LBatchTransfer$Shelf;", Cond.fieldLink RX1 36 "BatchTransfer$Sender" "current" "I", Cond.fieldLink RX1 85 "BatchTransfer$Sender" "outcome" "I", Cond.sameField "BatchTransfer$Sender" "BatchTransfer$Side" "outcome" "I", Cond.fieldLink RX1 88 "BatchTransfer$Sender" "number" "I", Cond.fieldLink RX1 91 "BatchTransfer$Shelf" "starts" "[I", Cond.fieldLink RX1 95 "BatchTransfer$Sender" "offset" "I", Cond.fieldLink RX1 98 "BatchTransfer$Shelf" "sizes" "[I", Cond.fieldLink RX1 101 "BatchTransfer$Sender" "left" "I", Cond.fieldLink RX1 104 "BatchTransfer$Unit" "END" "LBatchTransfer$Unit;", Cond.methodLink RX1 82 yX2_has, Cond.instanceMethod yX2_has, Cond.selects RX2 yX2_has yX2_has, Cond.initialized RX2, Cond.code yX2_has cX2_has 2 (some .boolean), Cond.fieldLink RX2 28 "BatchTransfer$Shelf" "count" "I"]
def wsX1_goToNextUnit_r2 : List Cond := [Cond.methodLink RX1 76 yX1_goBehindBlock, Cond.instanceMethod yX1_goBehindBlock, Cond.selects RX1 yX1_goBehindBlock yX1_goBehindBlock, Cond.code yX1_goBehindBlock cX1_goBehindBlock 2 none, Cond.methodLink RX1 111 Lib.Math.min.name, Cond.static Lib.Math.min.name, Cond.initialized "java/lang/Math", Cond.code Lib.Math.min.name Lib.Math.min.code 2 (some .int), Cond.methodLink RX1 107 yX1_blockLength, Cond.instanceMethod yX1_blockLength, Cond.selects RX1 yX1_blockLength yX1_blockLength, Cond.code yX1_blockLength cX1_blockLength 1 (some .int), Cond.fieldLink RX1 43 "BatchTransfer$Sender" "mode" "I", Cond.sameField "BatchTransfer$Sender" "BatchTransfer$Side" "mode" "I", Cond.methodLink RX1 79 yX1_goBehindFile, Cond.instanceMethod yX1_goBehindFile, Cond.selects RX1 yX1_goBehindFile yX1_goBehindFile, Cond.code yX1_goBehindFile cX1_goBehindFile 1 none]
def wsX1_goToNextUnit : List Cond := .code yX1_goToNextUnit cX1_goToNextUnit 1 none :: ((wsX1_goToNextUnit_r1 ++ wsX1_goToNextUnit_r2) ++ wsX10 ++ wsX00 ++ wsX20)
def wsX1_answer_r1 : List Cond := [Cond.fieldLink RX1 32 "BatchTransfer$Sender" "asked" "Z", Cond.fieldLink RX1 43 "BatchTransfer$Sender" "mode" "I", Cond.sameField "BatchTransfer$Sender" "BatchTransfer$Side" "mode" "I", Cond.fieldLink RX1 60 "BatchTransfer$Sender" "misses" "I", Cond.sameField "BatchTransfer$Sender" "BatchTransfer$Side" "misses" "I", Cond.static yX7_askOf, Cond.initialized RX7, Cond.code yX7_askOf cX7_askOf 1 (some .int), Cond.methodLink RX1 50 yX6_isByte, Cond.instanceMethod yX6_isByte, Cond.selects RX6 yX6_isByte yX6_isByte, Cond.initialized RX6, Cond.code yX6_isByte cX6_isByte 2 (some .boolean), Cond.fieldLink RX6 15 "BatchTransfer$Wire" "length" "I", Cond.methodLink RX6 19 yX6_get, Cond.instanceMethod yX6_get, Cond.selects RX6 yX6_get yX6_get, Cond.code yX6_get cX6_get 2 (some .int), Cond.fieldLink RX6 9 "BatchTransfer$Wire" "bytes" "[B", Cond.methodLink RX1 56 yX1_putUnit, Cond.instanceMethod yX1_putUnit, Cond.selects RX1 yX1_putUnit yX1_putUnit, Cond.initialized RX1, Cond.code yX1_putUnit cX1_putUnit 2 none]
def wsX1_answer_r2 : List Cond := [Cond.fieldLink RX1 85 "BatchTransfer$Sender" "outcome" "I", Cond.sameField "BatchTransfer$Sender" "BatchTransfer$Side" "outcome" "I", Cond.fieldLink RX1 26 "BatchTransfer$Sender" "unit" "LBatchTransfer$Unit;", Cond.fieldLink RX1 20 "BatchTransfer$Unit" "HEAD" "LBatchTransfer$Unit;", Cond.fieldLink RX1 73 "BatchTransfer$Unit" "BLOCK" "LBatchTransfer$Unit;", Cond.methodLink RX1 117 yX6_empty, Cond.instanceMethod yX6_empty, Cond.selects RX6 yX6_empty yX6_empty, Cond.code yX6_empty cX6_empty 1 none, Cond.methodLink RX1 120 yX1_putHead, Cond.instanceMethod yX1_putHead, Cond.selects RX1 yX1_putHead yX1_putHead, Cond.code yX1_putHead cX1_putHead 3 none, Cond.fieldLink RX1 14 "BatchTransfer$Sender" "files" "LBatchTransfer$Shelf;", Cond.fieldLink RX1 36 "BatchTransfer$Sender" "current" "I", Cond.fieldLink RX1 130 "BatchTransfer$Shelf" "nameLengths" "[I", Cond.fieldLink RX1 133 "BatchTransfer$Shelf" "names" "[B", Cond.fieldLink RX1 137 "BatchTransfer$Wire" "bytes" "[B", Cond.methodLink RX1 140 arraycopyName, Cond.native arraycopyName, Cond.static arraycopyName, Cond.initialized "java/lang/System", Cond.fieldLink RX1 98 "BatchTransfer$Shelf" "sizes" "[I", Cond.methodLink RX1 126 yX6_openBlock]
def wsX1_answer_r3 : List Cond := [Cond.instanceMethod yX6_openBlock, Cond.selects RX6 yX6_openBlock yX6_openBlock, Cond.code yX6_openBlock cX6_openBlock 5 none, Cond.methodLink RX1 82 yX2_has, Cond.instanceMethod yX2_has, Cond.selects RX2 yX2_has yX2_has, Cond.initialized RX2, Cond.code yX2_has cX2_has 2 (some .boolean), Cond.fieldLink RX2 28 "BatchTransfer$Shelf" "count" "I", Cond.methodLink RX1 146 yX1_putDigits, Cond.static yX1_putDigits, Cond.code yX1_putDigits cX1_putDigits 5 none, Cond.methodLink RX1 150 yX6_sealBlock, Cond.instanceMethod yX6_sealBlock, Cond.selects RX6 yX6_sealBlock yX6_sealBlock, Cond.code yX6_sealBlock cX6_sealBlock 3 none, Cond.methodLink RX6 29 yX6_sum, Cond.instanceMethod yX6_sum, Cond.selects RX6 yX6_sum yX6_sum, Cond.code yX6_sum cX6_sum 4 (some .int), Cond.methodLink RX6 32 yX6_crc, Cond.instanceMethod yX6_crc, Cond.selects RX6 yX6_crc yX6_crc, Cond.code yX6_crc cX6_crc 5 (some .int)]
def wsX1_answer_r4 : List Cond := [Cond.constant RX6 39 (65535), Cond.methodLink RX1 123 yX1_putBlock, Cond.instanceMethod yX1_putBlock, Cond.selects RX1 yX1_putBlock yX1_putBlock, Cond.code yX1_putBlock cX1_putBlock 3 none, Cond.fieldLink RX1 88 "BatchTransfer$Sender" "number" "I", Cond.fieldLink RX1 153 "BatchTransfer$Shelf" "data" "[B", Cond.fieldLink RX1 95 "BatchTransfer$Sender" "offset" "I", Cond.fieldLink RX1 101 "BatchTransfer$Sender" "left" "I", Cond.methodLink RX1 111 Lib.Math.min.name, Cond.static Lib.Math.min.name, Cond.initialized "java/lang/Math", Cond.code Lib.Math.min.name Lib.Math.min.code 2 (some .int), Cond.methodLink RX1 107 yX1_blockLength, Cond.instanceMethod yX1_blockLength, Cond.selects RX1 yX1_blockLength yX1_blockLength, Cond.code yX1_blockLength cX1_blockLength 1 (some .int), Cond.methodLink RX1 70 yX6_putByte, Cond.instanceMethod yX6_putByte, Cond.selects RX6 yX6_putByte yX6_putByte, Cond.code yX6_putByte cX6_putByte 2 none, Cond.methodLink RX1 63 yX1_goToNextUnit, Cond.instanceMethod yX1_goToNextUnit, Cond.selects RX1 yX1_goToNextUnit yX1_goToNextUnit]
def wsX1_answer_r5 : List Cond := [Cond.code yX1_goToNextUnit cX1_goToNextUnit 1 none, Cond.methodLink RX1 40 yX1_goIntoFile, Cond.instanceMethod yX1_goIntoFile, Cond.selects RX1 yX1_goIntoFile yX1_goIntoFile, Cond.code yX1_goIntoFile cX1_goIntoFile 1 none, Cond.fieldLink RX1 91 "BatchTransfer$Shelf" "starts" "[I", Cond.fieldLink RX1 104 "BatchTransfer$Unit" "END" "LBatchTransfer$Unit;", Cond.methodLink RX1 76 yX1_goBehindBlock, Cond.instanceMethod yX1_goBehindBlock, Cond.selects RX1 yX1_goBehindBlock yX1_goBehindBlock, Cond.code yX1_goBehindBlock cX1_goBehindBlock 2 none, Cond.methodLink RX1 79 yX1_goBehindFile, Cond.instanceMethod yX1_goBehindFile, Cond.selects RX1 yX1_goBehindFile yX1_goBehindFile, Cond.code yX1_goBehindFile cX1_goBehindFile 1 none, Cond.methodLink RX1 66 ⟨"BatchTransfer$Sender", "bearsMiss", "(LBatchTransfer$Wire;)Z"⟩, Cond.sameMethod "BatchTransfer$Sender" "BatchTransfer$Side" "bearsMiss" "(LBatchTransfer$Wire;)Z", Cond.selects RX1 ⟨"BatchTransfer$Sender", "bearsMiss", "(LBatchTransfer$Wire;)Z"⟩ yX3_bearsMiss, Cond.instanceMethod yX3_bearsMiss, Cond.initialized RX3, Cond.code yX3_bearsMiss cX3_bearsMiss 2 (some .boolean), Cond.fieldLink RX3 31 "BatchTransfer$Side" "misses" "I", Cond.methodLink RX3 34 ⟨"BatchTransfer$Side", "giveUp", "(LBatchTransfer$Wire;)V"⟩, Cond.sameMethod "BatchTransfer$Side" "BatchTransfer$Side" "giveUp" "(LBatchTransfer$Wire;)V"]
def wsX1_answer_r6 : List Cond := [Cond.selects RX0 ⟨"BatchTransfer$Side", "giveUp", "(LBatchTransfer$Wire;)V"⟩ yX3_giveUp, Cond.instanceMethod yX3_giveUp, Cond.code yX3_giveUp cX3_giveUp 2 none, Cond.fieldLink RX3 9 "BatchTransfer$Side" "outcome" "I", Cond.methodLink RX3 37 yX6_putByte, Cond.selects RX1 ⟨"BatchTransfer$Side", "giveUp", "(LBatchTransfer$Wire;)V"⟩ yX3_giveUp]
def wsX1_answer : List Cond := .code yX1_answer cX1_answer 2 none :: ((wsX1_answer_r1 ++ (wsX1_answer_r2 ++ (wsX1_answer_r3 ++ (wsX1_answer_r4 ++ (wsX1_answer_r5 ++ wsX1_answer_r6))))) ++ wsX10 ++ wsX00 ++ wsX60 ++ wsX20)
def wsX2_nameLastByLetter : List Cond := .code yX2_nameLastByLetter cX2_nameLastByLetter 3 none :: ([.fieldLink RX2 28 "BatchTransfer$Shelf" "count" "I", .fieldLink RX2 9 "BatchTransfer$Shelf" "names" "[B", .fieldLink RX2 15 "BatchTransfer$Shelf" "nameLengths" "[I"] ++ wsX20)
def wsX2_extendLastByOne : List Cond := .code yX2_extendLastByOne cX2_extendLastByOne 3 none :: ([.fieldLink RX2 28 "BatchTransfer$Shelf" "count" "I", .fieldLink RX2 19 "BatchTransfer$Shelf" "starts" "[I", .fieldLink RX2 22 "BatchTransfer$Shelf" "sizes" "[I", .fieldLink RX2 25 "BatchTransfer$Shelf" "data" "[B"] ++ wsX20)
def wsX3_hear_r1 : List Cond := [Cond.fieldLink RX3 9 "BatchTransfer$Side" "outcome" "I", Cond.methodLink RX3 15 yX6_empty, Cond.instanceMethod yX6_empty, Cond.selects RX6 yX6_empty yX6_empty, Cond.initialized RX6, Cond.code yX6_empty cX6_empty 1 none, Cond.fieldLink RX6 15 "BatchTransfer$Wire" "length" "I", Cond.methodLink RX3 20 yX6_isByte, Cond.instanceMethod yX6_isByte, Cond.selects RX6 yX6_isByte yX6_isByte, Cond.code yX6_isByte cX6_isByte 2 (some .boolean), Cond.methodLink RX6 19 yX6_get, Cond.instanceMethod yX6_get, Cond.selects RX6 yX6_get yX6_get, Cond.code yX6_get cX6_get 2 (some .int), Cond.fieldLink RX6 9 "BatchTransfer$Wire" "bytes" "[B", Cond.methodLink RX3 24 ⟨"BatchTransfer$Side", "answer", "(LBatchTransfer$Wire;)V"⟩, Cond.sameMethod "BatchTransfer$Side" "BatchTransfer$Side" "answer" "(LBatchTransfer$Wire;)V", Cond.selects RX0 ⟨"BatchTransfer$Side", "answer", "(LBatchTransfer$Wire;)V"⟩ yX0_answer, Cond.instanceMethod yX0_answer, Cond.initialized RX0, Cond.code yX0_answer cX0_answer 2 none, Cond.fieldLink RX0 43 "BatchTransfer$Receiver" "mode" "I", Cond.sameField "BatchTransfer$Receiver" "BatchTransfer$Side" "mode" "I"]
def wsX3_hear_r2 : List Cond := [Cond.fieldLink RX0 27 "BatchTransfer$Receiver" "anyWasRight" "Z", Cond.methodLink RX0 46 yX6_isRightBlock, Cond.instanceMethod yX6_isRightBlock, Cond.selects RX6 yX6_isRightBlock yX6_isRightBlock, Cond.code yX6_isRightBlock cX6_isRightBlock 4 (some .boolean), Cond.methodLink RX6 35 yX6_dataLength, Cond.instanceMethod yX6_dataLength, Cond.selects RX6 yX6_dataLength yX6_dataLength, Cond.code yX6_dataLength cX6_dataLength 1 (some .int), Cond.methodLink RX6 29 yX6_sum, Cond.instanceMethod yX6_sum, Cond.selects RX6 yX6_sum yX6_sum, Cond.code yX6_sum cX6_sum 4 (some .int), Cond.methodLink RX6 32 yX6_crc, Cond.instanceMethod yX6_crc, Cond.selects RX6 yX6_crc yX6_crc, Cond.code yX6_crc cX6_crc 5 (some .int), Cond.constant RX6 39 (65535), Cond.methodLink RX0 52 yX0_answerBlock, Cond.instanceMethod yX0_answerBlock, Cond.selects RX0 yX0_answerBlock yX0_answerBlock, Cond.code yX0_answerBlock cX0_answerBlock 3 none, Cond.fieldLink RX0 76 "BatchTransfer$Receiver" "expected" "I", Cond.fieldLink RX0 31 "BatchTransfer$Receiver" "anyOfFileWasRight" "Z"]
def wsX3_hear_r3 : List Cond := [Cond.fieldLink RX0 79 "BatchTransfer$Receiver" "headExpected" "Z", Cond.methodLink RX0 73 yX6_get, Cond.methodLink RX0 82 yX0_takeHead, Cond.instanceMethod yX0_takeHead, Cond.selects RX0 yX0_takeHead yX0_takeHead, Cond.code yX0_takeHead cX0_takeHead 3 none, Cond.fieldLink RX0 104 "BatchTransfer$Receiver" "outcome" "I", Cond.sameField "BatchTransfer$Receiver" "BatchTransfer$Side" "outcome" "I", Cond.fieldLink RX0 14 "BatchTransfer$Receiver" "arrived" "LBatchTransfer$Shelf;", Cond.fieldLink RX0 107 "BatchTransfer$Wire" "bytes" "[B", Cond.fieldLink RX0 119 "BatchTransfer$Receiver" "sizeTold" "I", Cond.methodLink RX0 100 yX0_nameLengthIn, Cond.static yX0_nameLengthIn, Cond.code yX0_nameLengthIn cX0_nameLengthIn 2 (some .int), Cond.methodLink RX0 37 yX2_open, Cond.instanceMethod yX2_open, Cond.selects RX2 yX2_open yX2_open, Cond.initialized RX2, Cond.code yX2_open cX2_open 1 none, Cond.fieldLink RX2 28 "BatchTransfer$Shelf" "count" "I", Cond.fieldLink RX2 19 "BatchTransfer$Shelf" "starts" "[I", Cond.fieldLink RX2 22 "BatchTransfer$Shelf" "sizes" "[I", Cond.fieldLink RX2 15 "BatchTransfer$Shelf" "nameLengths" "[I", Cond.methodLink RX0 111 yX2_nameLast]
def wsX3_hear_r4 : List Cond := [Cond.instanceMethod yX2_nameLast, Cond.selects RX2 yX2_nameLast yX2_nameLast, Cond.code yX2_nameLast cX2_nameLast 5 none, Cond.fieldLink RX2 9 "BatchTransfer$Shelf" "names" "[B", Cond.methodLink RX2 32 arraycopyName, Cond.native arraycopyName, Cond.static arraycopyName, Cond.initialized "java/lang/System", Cond.methodLink RX0 115 yX0_numberIn, Cond.static yX0_numberIn, Cond.code yX0_numberIn cX0_numberIn 5 (some .int), Cond.methodLink RX0 40 yX0_expectBlocks, Cond.instanceMethod yX0_expectBlocks, Cond.selects RX0 yX0_expectBlocks yX0_expectBlocks, Cond.code yX0_expectBlocks cX0_expectBlocks 1 none, Cond.methodLink RX0 85 yX0_takeData, Cond.instanceMethod yX0_takeData, Cond.selects RX0 yX0_takeData yX0_takeData, Cond.code yX0_takeData cX0_takeData 2 none, Cond.methodLink RX0 122 yX6_dataLength, Cond.methodLink RX0 126 yX2_extendLast, Cond.instanceMethod yX2_extendLast, Cond.selects RX2 yX2_extendLast yX2_extendLast, Cond.code yX2_extendLast cX2_extendLast 5 none]
def wsX3_hear_r5 : List Cond := [Cond.fieldLink RX2 25 "BatchTransfer$Shelf" "data" "[B", Cond.methodLink RX0 88 yX0_acknowledge, Cond.instanceMethod yX0_acknowledge, Cond.selects RX0 yX0_acknowledge yX0_acknowledge, Cond.code yX0_acknowledge cX0_acknowledge 2 none, Cond.fieldLink RX0 97 "BatchTransfer$Receiver" "misses" "I", Cond.sameField "BatchTransfer$Receiver" "BatchTransfer$Side" "misses" "I", Cond.methodLink RX0 70 yX6_putByte, Cond.instanceMethod yX6_putByte, Cond.selects RX6 yX6_putByte yX6_putByte, Cond.code yX6_putByte cX6_putByte 2 none, Cond.methodLink RX0 91 ⟨"BatchTransfer$Receiver", "giveUp", "(LBatchTransfer$Wire;)V"⟩, Cond.sameMethod "BatchTransfer$Receiver" "BatchTransfer$Side" "giveUp" "(LBatchTransfer$Wire;)V", Cond.selects RX0 ⟨"BatchTransfer$Receiver", "giveUp", "(LBatchTransfer$Wire;)V"⟩ yX3_giveUp, Cond.instanceMethod yX3_giveUp, Cond.initialized RX3, Cond.code yX3_giveUp cX3_giveUp 2 none, Cond.methodLink RX3 37 yX6_putByte, Cond.methodLink RX0 56 yX6_isByte, Cond.methodLink RX0 59 yX0_answerEnd, Cond.instanceMethod yX0_answerEnd, Cond.selects RX0 yX0_answerEnd yX0_answerEnd, Cond.code yX0_answerEnd cX0_answerEnd 2 none, Cond.methodLink RX0 94 yX0_closeFile]
def wsX3_hear_r6 : List Cond := [Cond.instanceMethod yX0_closeFile, Cond.selects RX0 yX0_closeFile yX0_closeFile, Cond.code yX0_closeFile cX0_closeFile 1 none, Cond.methodLink RX0 129 yX2_cutLast, Cond.instanceMethod yX2_cutLast, Cond.selects RX2 yX2_cutLast yX2_cutLast, Cond.code yX2_cutLast cX2_cutLast 3 none, Cond.methodLink RX0 34 yX0_expectHead, Cond.instanceMethod yX0_expectHead, Cond.selects RX0 yX0_expectHead yX0_expectHead, Cond.code yX0_expectHead cX0_expectHead 1 none, Cond.methodLink RX0 62 ⟨"BatchTransfer$Receiver", "bearsMiss", "(LBatchTransfer$Wire;)Z"⟩, Cond.sameMethod "BatchTransfer$Receiver" "BatchTransfer$Side" "bearsMiss" "(LBatchTransfer$Wire;)Z", Cond.selects RX0 ⟨"BatchTransfer$Receiver", "bearsMiss", "(LBatchTransfer$Wire;)Z"⟩ yX3_bearsMiss, Cond.instanceMethod yX3_bearsMiss, Cond.code yX3_bearsMiss cX3_bearsMiss 2 (some .boolean), Cond.fieldLink RX3 31 "BatchTransfer$Side" "misses" "I", Cond.methodLink RX3 34 ⟨"BatchTransfer$Side", "giveUp", "(LBatchTransfer$Wire;)V"⟩, Cond.sameMethod "BatchTransfer$Side" "BatchTransfer$Side" "giveUp" "(LBatchTransfer$Wire;)V", Cond.selects RX0 ⟨"BatchTransfer$Side", "giveUp", "(LBatchTransfer$Wire;)V"⟩ yX3_giveUp, Cond.selects RX1 ⟨"BatchTransfer$Side", "giveUp", "(LBatchTransfer$Wire;)V"⟩ yX3_giveUp, Cond.static yX7_askOf, Cond.initialized RX7, Cond.code yX7_askOf cX7_askOf 1 (some .int)]
def wsX3_hear_r7 : List Cond := [Cond.selects RX1 ⟨"BatchTransfer$Side", "answer", "(LBatchTransfer$Wire;)V"⟩ yX1_answer, Cond.instanceMethod yX1_answer, Cond.initialized RX1, Cond.code yX1_answer cX1_answer 2 none, Cond.fieldLink RX1 32 "BatchTransfer$Sender" "asked" "Z", Cond.fieldLink RX1 43 "BatchTransfer$Sender" "mode" "I", Cond.sameField "BatchTransfer$Sender" "BatchTransfer$Side" "mode" "I", Cond.fieldLink RX1 60 "BatchTransfer$Sender" "misses" "I", Cond.sameField "BatchTransfer$Sender" "BatchTransfer$Side" "misses" "I", Cond.methodLink RX1 50 yX6_isByte, Cond.methodLink RX1 56 yX1_putUnit, Cond.instanceMethod yX1_putUnit, Cond.selects RX1 yX1_putUnit yX1_putUnit, Cond.code yX1_putUnit cX1_putUnit 2 none, Cond.fieldLink RX1 85 "BatchTransfer$Sender" "outcome" "I", Cond.sameField "BatchTransfer$Sender" "BatchTransfer$Side" "outcome" "I", Cond.fieldLink RX1 26 "BatchTransfer$Sender" "unit" "LBatchTransfer$Unit;", Cond.fieldLink RX1 20 "BatchTransfer$Unit" "HEAD" "LBatchTransfer$Unit;", Cond.fieldLink RX1 73 "BatchTransfer$Unit" "BLOCK" "LBatchTransfer$Unit;", Cond.methodLink RX1 117 yX6_empty, Cond.methodLink RX1 120 yX1_putHead, Cond.instanceMethod yX1_putHead, Cond.selects RX1 yX1_putHead yX1_putHead, Cond.code yX1_putHead cX1_putHead 3 none]
def wsX3_hear_r8 : List Cond := [Cond.fieldLink RX1 14 "BatchTransfer$Sender" "files" "LBatchTransfer$Shelf;", Cond.fieldLink RX1 36 "BatchTransfer$Sender" "current" "I", Cond.fieldLink RX1 130 "BatchTransfer$Shelf" "nameLengths" "[I", Cond.fieldLink RX1 133 "BatchTransfer$Shelf" "names" "[B", Cond.fieldLink RX1 137 "BatchTransfer$Wire" "bytes" "[B", Cond.methodLink RX1 140 arraycopyName, Cond.fieldLink RX1 98 "BatchTransfer$Shelf" "sizes" "[I", Cond.methodLink RX1 126 yX6_openBlock, Cond.instanceMethod yX6_openBlock, Cond.selects RX6 yX6_openBlock yX6_openBlock, Cond.code yX6_openBlock cX6_openBlock 5 none, Cond.methodLink RX1 82 yX2_has, Cond.instanceMethod yX2_has, Cond.selects RX2 yX2_has yX2_has, Cond.code yX2_has cX2_has 2 (some .boolean), Cond.methodLink RX1 146 yX1_putDigits, Cond.static yX1_putDigits, Cond.code yX1_putDigits cX1_putDigits 5 none, Cond.methodLink RX1 150 yX6_sealBlock, Cond.instanceMethod yX6_sealBlock, Cond.selects RX6 yX6_sealBlock yX6_sealBlock, Cond.code yX6_sealBlock cX6_sealBlock 3 none, Cond.methodLink RX1 123 yX1_putBlock, Cond.instanceMethod yX1_putBlock]
def wsX3_hear_r9 : List Cond := [Cond.selects RX1 yX1_putBlock yX1_putBlock, Cond.code yX1_putBlock cX1_putBlock 3 none, Cond.fieldLink RX1 88 "BatchTransfer$Sender" "number" "I", Cond.fieldLink RX1 153 "BatchTransfer$Shelf" "data" "[B", Cond.fieldLink RX1 95 "BatchTransfer$Sender" "offset" "I", Cond.fieldLink RX1 101 "BatchTransfer$Sender" "left" "I", Cond.methodLink RX1 111 Lib.Math.min.name, Cond.static Lib.Math.min.name, Cond.initialized "java/lang/Math", Cond.code Lib.Math.min.name Lib.Math.min.code 2 (some .int), Cond.methodLink RX1 107 yX1_blockLength, Cond.instanceMethod yX1_blockLength, Cond.selects RX1 yX1_blockLength yX1_blockLength, Cond.code yX1_blockLength cX1_blockLength 1 (some .int), Cond.methodLink RX1 70 yX6_putByte, Cond.methodLink RX1 63 yX1_goToNextUnit, Cond.instanceMethod yX1_goToNextUnit, Cond.selects RX1 yX1_goToNextUnit yX1_goToNextUnit, Cond.code yX1_goToNextUnit cX1_goToNextUnit 1 none, Cond.methodLink RX1 40 yX1_goIntoFile, Cond.instanceMethod yX1_goIntoFile, Cond.selects RX1 yX1_goIntoFile yX1_goIntoFile, Cond.code yX1_goIntoFile cX1_goIntoFile 1 none, Cond.fieldLink RX1 91 "BatchTransfer$Shelf" "starts" "[I"]
def wsX3_hear_r10 : List Cond := [Cond.fieldLink RX1 104 "BatchTransfer$Unit" "END" "LBatchTransfer$Unit;", Cond.methodLink RX1 76 yX1_goBehindBlock, Cond.instanceMethod yX1_goBehindBlock, Cond.selects RX1 yX1_goBehindBlock yX1_goBehindBlock, Cond.code yX1_goBehindBlock cX1_goBehindBlock 2 none, Cond.methodLink RX1 79 yX1_goBehindFile, Cond.instanceMethod yX1_goBehindFile, Cond.selects RX1 yX1_goBehindFile yX1_goBehindFile, Cond.code yX1_goBehindFile cX1_goBehindFile 1 none, Cond.methodLink RX1 66 ⟨"BatchTransfer$Sender", "bearsMiss", "(LBatchTransfer$Wire;)Z"⟩, Cond.sameMethod "BatchTransfer$Sender" "BatchTransfer$Side" "bearsMiss" "(LBatchTransfer$Wire;)Z", Cond.selects RX1 ⟨"BatchTransfer$Sender", "bearsMiss", "(LBatchTransfer$Wire;)Z"⟩ yX3_bearsMiss]
def wsX3_hear : List Cond := .code yX3_hear cX3_hear 2 none :: ((wsX3_hear_r1 ++ (wsX3_hear_r2 ++ (wsX3_hear_r3 ++ (wsX3_hear_r4 ++ (wsX3_hear_r5 ++ (wsX3_hear_r6 ++ (wsX3_hear_r7 ++ (wsX3_hear_r8 ++ (wsX3_hear_r9 ++ wsX3_hear_r10))))))))) ++ wsX00 ++ wsX10 ++ wsX60 ++ wsX20)
def wsX4_init : List Cond := .code yX4_init cX4_init 1 none :: ([.methodLink RX4 3 objectInit, .instanceMethod objectInit, .code objectInit ⟨#[0xb1]⟩ 1 none, .arrayClass .byte, .fieldLink RX4 9 "BatchTransfer$Tape" "bytes" "[B"] ++ wsX40)
def wsX4_append : List Cond := .code yX4_append cX4_append 3 none :: ([.fieldLink RX4 15 "BatchTransfer$Tape" "length" "I", .fieldLink RX4 9 "BatchTransfer$Tape" "bytes" "[B"] ++ wsX40)
def wsX4_nameLength : List Cond := .code yX4_nameLength cX4_nameLength 2 (some .int) :: ([.fieldLink RX4 15 "BatchTransfer$Tape" "length" "I", .fieldLink RX4 9 "BatchTransfer$Tape" "bytes" "[B"] ++ wsX40)
def wsX6_init : List Cond := .code yX6_init cX6_init 1 none :: ([.methodLink RX6 3 objectInit, .instanceMethod objectInit, .code objectInit ⟨#[0xb1]⟩ 1 none, .arrayClass .byte, .fieldLink RX6 9 "BatchTransfer$Wire" "bytes" "[B"] ++ wsX60)
def wsJ9_floorMod_7cf53 : List Cond := .code yJ9_floorMod_7cf53 cJ9_floorMod_7cf53 3 (some .int) :: ([])
def wsX6_damage : List Cond := .code yX6_damage cX6_damage 3 none :: ([.fieldLink RX6 15 "BatchTransfer$Wire" "length" "I", .fieldLink RX6 9 "BatchTransfer$Wire" "bytes" "[B", .methodLink RX6 23 yJ9_floorMod_7cf53, .static yJ9_floorMod_7cf53, .initialized RJ9, .code yJ9_floorMod_7cf53 cJ9_floorMod_7cf53 3 (some .int)] ++ wsX60)
def wsX7_init_r1 : List Cond := [Cond.methodLink RX7 3 objectInit, Cond.instanceMethod objectInit, Cond.code objectInit ⟨#[0xb1]⟩ 1 none, Cond.classLink RX7 9 RX4, Cond.instantiable RX4 2, Cond.initialized RX4, Cond.fieldLink RX7 12 "BatchTransfer" "tape" "LBatchTransfer$Tape;", Cond.classLink RX7 16 RX6, Cond.instantiable RX6 2, Cond.initialized RX6, Cond.fieldLink RX7 19 "BatchTransfer" "wire" "LBatchTransfer$Wire;", Cond.classLink RX7 23 RX1, Cond.instantiable RX1 10, Cond.initialized RX1, Cond.fieldLink RX7 26 "BatchTransfer" "sender" "LBatchTransfer$Sender;", Cond.classLink RX7 30 RX0, Cond.instantiable RX0 9, Cond.initialized RX0, Cond.fieldLink RX7 33 "BatchTransfer" "receiver" "LBatchTransfer$Receiver;", Cond.instanceMethod yX4_init, Cond.code yX4_init cX4_init 1 none, Cond.methodLink RX4 3 objectInit, Cond.arrayClass .byte, Cond.fieldLink RX4 9 "BatchTransfer$Tape" "bytes" "[B"]
def wsX7_init_r2 : List Cond := [Cond.instanceMethod yX6_init, Cond.code yX6_init cX6_init 1 none, Cond.methodLink RX6 3 objectInit, Cond.fieldLink RX6 9 "BatchTransfer$Wire" "bytes" "[B", Cond.instanceMethod yX1_init, Cond.code yX1_init cX1_init 1 none, Cond.classLink RX1 9 RX2, Cond.instantiable RX2 6, Cond.initialized RX2, Cond.fieldLink RX1 14 "BatchTransfer$Sender" "files" "LBatchTransfer$Shelf;", Cond.fieldLink RX1 20 "BatchTransfer$Unit" "HEAD" "LBatchTransfer$Unit;", Cond.fieldLink RX1 26 "BatchTransfer$Sender" "unit" "LBatchTransfer$Unit;", Cond.instanceMethod yX3_init, Cond.initialized RX3, Cond.code yX3_init cX3_init 1 none, Cond.methodLink RX3 3 objectInit, Cond.methodLink RX1 11 yX2_init, Cond.instanceMethod yX2_init, Cond.code yX2_init cX2_init 2 none, Cond.methodLink RX2 3 objectInit, Cond.fieldLink RX2 9 "BatchTransfer$Shelf" "names" "[B", Cond.arrayClass .int, Cond.fieldLink RX2 15 "BatchTransfer$Shelf" "nameLengths" "[I", Cond.fieldLink RX2 19 "BatchTransfer$Shelf" "starts" "[I"]
def wsX7_init_r3 : List Cond := [Cond.fieldLink RX2 22 "BatchTransfer$Shelf" "sizes" "[I", Cond.fieldLink RX2 25 "BatchTransfer$Shelf" "data" "[B", Cond.instanceMethod yX0_init, Cond.code yX0_init cX0_init 1 none, Cond.classLink RX0 9 RX2, Cond.fieldLink RX0 14 "BatchTransfer$Receiver" "arrived" "LBatchTransfer$Shelf;", Cond.methodLink RX0 11 yX2_init]
def wsX7_init : List Cond := .code yX7_init cX7_init 1 none :: ((wsX7_init_r1 ++ (wsX7_init_r2 ++ wsX7_init_r3)) ++ wsX40 ++ wsX70 ++ wsX60 ++ wsX10 ++ wsX00 ++ wsX20)
def wsX7_feed : List Cond := .code yX7_feed cX7_feed 6 (some .boolean) :: ([.fieldLink RX7 12 "BatchTransfer" "tape" "LBatchTransfer$Tape;", .fieldLink RX7 37 "BatchTransfer$Tape" "length" "I", .methodLink RX7 41 yX4_append, .instanceMethod yX4_append, .selects RX4 yX4_append yX4_append, .initialized RX4, .code yX4_append cX4_append 3 none, .fieldLink RX4 15 "BatchTransfer$Tape" "length" "I", .fieldLink RX4 9 "BatchTransfer$Tape" "bytes" "[B"] ++ wsX70 ++ wsX40)
def wsX7_end : List Cond := .code yX7_end cX7_end 2 (some .boolean) :: ([.fieldLink RX7 12 "BatchTransfer" "tape" "LBatchTransfer$Tape;", .fieldLink RX7 37 "BatchTransfer$Tape" "length" "I"] ++ wsX70 ++ wsX40)
def wsX7_isOn : List Cond := .code yX7_isOn cX7_isOn 1 (some .boolean) :: ([.fieldLink RX7 19 "BatchTransfer" "wire" "LBatchTransfer$Wire;", .fieldLink RX7 124 "BatchTransfer$Wire" "length" "I"] ++ wsX70 ++ wsX60)
def wsX7_mayAddFile : List Cond := .code yX7_mayAddFile cX7_mayAddFile 1 (some .boolean) :: ([.fieldLink RX7 26 "BatchTransfer" "sender" "LBatchTransfer$Sender;", .fieldLink RX7 53 "BatchTransfer$Sender" "files" "LBatchTransfer$Shelf;", .fieldLink RX7 73 "BatchTransfer$Shelf" "count" "I", .methodLink RX7 83 yX7_isOn, .instanceMethod yX7_isOn, .selects RX7 yX7_isOn yX7_isOn, .initialized RX7, .code yX7_isOn cX7_isOn 1 (some .boolean), .fieldLink RX7 19 "BatchTransfer" "wire" "LBatchTransfer$Wire;", .fieldLink RX7 124 "BatchTransfer$Wire" "length" "I"] ++ wsX70 ++ wsX10 ++ wsX20 ++ wsX60)
def wsX7_file_r1 : List Cond := [Cond.fieldLink RX7 12 "BatchTransfer" "tape" "LBatchTransfer$Tape;", Cond.fieldLink RX7 37 "BatchTransfer$Tape" "length" "I", Cond.fieldLink RX7 26 "BatchTransfer" "sender" "LBatchTransfer$Sender;", Cond.fieldLink RX7 53 "BatchTransfer$Sender" "files" "LBatchTransfer$Shelf;", Cond.fieldLink RX7 62 "BatchTransfer$Tape" "bytes" "[B", Cond.fieldLink RX7 73 "BatchTransfer$Shelf" "count" "I", Cond.methodLink RX7 45 yX4_nameLength, Cond.instanceMethod yX4_nameLength, Cond.selects RX4 yX4_nameLength yX4_nameLength, Cond.initialized RX4, Cond.code yX4_nameLength cX4_nameLength 2 (some .int), Cond.fieldLink RX4 15 "BatchTransfer$Tape" "length" "I", Cond.fieldLink RX4 9 "BatchTransfer$Tape" "bytes" "[B", Cond.methodLink RX7 49 yX7_mayAddFile, Cond.instanceMethod yX7_mayAddFile, Cond.selects RX7 yX7_mayAddFile yX7_mayAddFile, Cond.initialized RX7, Cond.code yX7_mayAddFile cX7_mayAddFile 1 (some .boolean), Cond.methodLink RX7 83 yX7_isOn, Cond.instanceMethod yX7_isOn, Cond.selects RX7 yX7_isOn yX7_isOn, Cond.code yX7_isOn cX7_isOn 1 (some .boolean), Cond.fieldLink RX7 19 "BatchTransfer" "wire" "LBatchTransfer$Wire;", Cond.fieldLink RX7 124 "BatchTransfer$Wire" "length" "I"]
def wsX7_file_r2 : List Cond := [Cond.methodLink RX7 57 yX2_open, Cond.instanceMethod yX2_open, Cond.selects RX2 yX2_open yX2_open, Cond.initialized RX2, Cond.code yX2_open cX2_open 1 none, Cond.fieldLink RX2 28 "BatchTransfer$Shelf" "count" "I", Cond.fieldLink RX2 19 "BatchTransfer$Shelf" "starts" "[I", Cond.fieldLink RX2 22 "BatchTransfer$Shelf" "sizes" "[I", Cond.fieldLink RX2 15 "BatchTransfer$Shelf" "nameLengths" "[I", Cond.methodLink RX7 66 yX2_nameLast, Cond.instanceMethod yX2_nameLast, Cond.selects RX2 yX2_nameLast yX2_nameLast, Cond.code yX2_nameLast cX2_nameLast 5 none, Cond.fieldLink RX2 9 "BatchTransfer$Shelf" "names" "[B", Cond.methodLink RX2 32 arraycopyName, Cond.native arraycopyName, Cond.static arraycopyName, Cond.initialized "java/lang/System", Cond.methodLink RX7 70 yX2_extendLast, Cond.instanceMethod yX2_extendLast, Cond.selects RX2 yX2_extendLast yX2_extendLast, Cond.code yX2_extendLast cX2_extendLast 5 none, Cond.fieldLink RX2 25 "BatchTransfer$Shelf" "data" "[B"]
def wsX7_file : List Cond := .code yX7_file cX7_file 5 (some .int) :: ((wsX7_file_r1 ++ wsX7_file_r2) ++ wsX70 ++ wsX40 ++ wsX10 ++ wsX20 ++ wsX60)
def wsX7_made_r1 : List Cond := [Cond.fieldLink RX7 26 "BatchTransfer" "sender" "LBatchTransfer$Sender;", Cond.fieldLink RX7 53 "BatchTransfer$Sender" "files" "LBatchTransfer$Shelf;", Cond.fieldLink RX7 73 "BatchTransfer$Shelf" "count" "I", Cond.methodLink RX7 49 yX7_mayAddFile, Cond.instanceMethod yX7_mayAddFile, Cond.selects RX7 yX7_mayAddFile yX7_mayAddFile, Cond.initialized RX7, Cond.code yX7_mayAddFile cX7_mayAddFile 1 (some .boolean), Cond.methodLink RX7 83 yX7_isOn, Cond.instanceMethod yX7_isOn, Cond.selects RX7 yX7_isOn yX7_isOn, Cond.code yX7_isOn cX7_isOn 1 (some .boolean), Cond.fieldLink RX7 19 "BatchTransfer" "wire" "LBatchTransfer$Wire;", Cond.fieldLink RX7 124 "BatchTransfer$Wire" "length" "I", Cond.methodLink RX7 57 yX2_open, Cond.instanceMethod yX2_open, Cond.selects RX2 yX2_open yX2_open, Cond.initialized RX2, Cond.code yX2_open cX2_open 1 none, Cond.fieldLink RX2 28 "BatchTransfer$Shelf" "count" "I", Cond.fieldLink RX2 19 "BatchTransfer$Shelf" "starts" "[I", Cond.fieldLink RX2 22 "BatchTransfer$Shelf" "sizes" "[I", Cond.fieldLink RX2 15 "BatchTransfer$Shelf" "nameLengths" "[I", Cond.methodLink RX7 76 yX2_nameLastByLetter]
def wsX7_made_r2 : List Cond := [Cond.instanceMethod yX2_nameLastByLetter, Cond.selects RX2 yX2_nameLastByLetter yX2_nameLastByLetter, Cond.code yX2_nameLastByLetter cX2_nameLastByLetter 3 none, Cond.fieldLink RX2 9 "BatchTransfer$Shelf" "names" "[B", Cond.methodLink RX7 80 yX2_extendLastByOne, Cond.instanceMethod yX2_extendLastByOne, Cond.selects RX2 yX2_extendLastByOne yX2_extendLastByOne, Cond.code yX2_extendLastByOne cX2_extendLastByOne 3 none, Cond.fieldLink RX2 25 "BatchTransfer$Shelf" "data" "[B"]
def wsX7_made : List Cond := .code yX7_made cX7_made 5 (some .int) :: ((wsX7_made_r1 ++ wsX7_made_r2) ++ wsX70 ++ wsX10 ++ wsX20 ++ wsX60)
def wsX7_clear : List Cond := .code yX7_clear cX7_clear 1 (some .boolean) :: ([.fieldLink RX7 26 "BatchTransfer" "sender" "LBatchTransfer$Sender;", .fieldLink RX7 53 "BatchTransfer$Sender" "files" "LBatchTransfer$Shelf;", .fieldLink RX7 73 "BatchTransfer$Shelf" "count" "I", .methodLink RX7 83 yX7_isOn, .instanceMethod yX7_isOn, .selects RX7 yX7_isOn yX7_isOn, .initialized RX7, .code yX7_isOn cX7_isOn 1 (some .boolean), .fieldLink RX7 19 "BatchTransfer" "wire" "LBatchTransfer$Wire;", .fieldLink RX7 124 "BatchTransfer$Wire" "length" "I"] ++ wsX70 ++ wsX10 ++ wsX20 ++ wsX60)
def wsX7_begin_r1 : List Cond := [Cond.fieldLink RX7 26 "BatchTransfer" "sender" "LBatchTransfer$Sender;", Cond.fieldLink RX7 53 "BatchTransfer$Sender" "files" "LBatchTransfer$Shelf;", Cond.fieldLink RX7 73 "BatchTransfer$Shelf" "count" "I", Cond.fieldLink RX7 33 "BatchTransfer" "receiver" "LBatchTransfer$Receiver;", Cond.fieldLink RX7 19 "BatchTransfer" "wire" "LBatchTransfer$Wire;", Cond.fieldLink RX7 97 "BatchTransfer" "senderIsNext" "Z", Cond.fieldLink RX7 101 "BatchTransfer" "everBegun" "Z", Cond.methodLink RX7 86 yX1_prepare, Cond.instanceMethod yX1_prepare, Cond.selects RX1 yX1_prepare yX1_prepare, Cond.initialized RX1, Cond.code yX1_prepare cX1_prepare 2 none, Cond.fieldLink RX1 32 "BatchTransfer$Sender" "asked" "Z", Cond.fieldLink RX1 36 "BatchTransfer$Sender" "current" "I", Cond.fieldLink RX1 20 "BatchTransfer$Unit" "HEAD" "LBatchTransfer$Unit;", Cond.fieldLink RX1 26 "BatchTransfer$Sender" "unit" "LBatchTransfer$Unit;", Cond.methodLink RX1 29 ⟨"BatchTransfer$Sender", "startWork", "(I)V"⟩, Cond.sameMethod "BatchTransfer$Sender" "BatchTransfer$Side" "startWork" "(I)V", Cond.selects RX1 ⟨"BatchTransfer$Sender", "startWork", "(I)V"⟩ yX3_startWork, Cond.instanceMethod yX3_startWork, Cond.initialized RX3, Cond.code yX3_startWork cX3_startWork 2 none, Cond.fieldLink RX3 28 "BatchTransfer$Side" "mode" "I", Cond.fieldLink RX3 9 "BatchTransfer$Side" "outcome" "I"]
def wsX7_begin_r2 : List Cond := [Cond.fieldLink RX3 31 "BatchTransfer$Side" "misses" "I", Cond.methodLink RX1 40 yX1_goIntoFile, Cond.instanceMethod yX1_goIntoFile, Cond.selects RX1 yX1_goIntoFile yX1_goIntoFile, Cond.code yX1_goIntoFile cX1_goIntoFile 1 none, Cond.fieldLink RX1 14 "BatchTransfer$Sender" "files" "LBatchTransfer$Shelf;", Cond.fieldLink RX1 85 "BatchTransfer$Sender" "outcome" "I", Cond.sameField "BatchTransfer$Sender" "BatchTransfer$Side" "outcome" "I", Cond.fieldLink RX1 88 "BatchTransfer$Sender" "number" "I", Cond.fieldLink RX1 91 "BatchTransfer$Shelf" "starts" "[I", Cond.fieldLink RX1 95 "BatchTransfer$Sender" "offset" "I", Cond.fieldLink RX1 98 "BatchTransfer$Shelf" "sizes" "[I", Cond.fieldLink RX1 101 "BatchTransfer$Sender" "left" "I", Cond.fieldLink RX1 73 "BatchTransfer$Unit" "BLOCK" "LBatchTransfer$Unit;", Cond.fieldLink RX1 104 "BatchTransfer$Unit" "END" "LBatchTransfer$Unit;", Cond.methodLink RX1 82 yX2_has, Cond.instanceMethod yX2_has, Cond.selects RX2 yX2_has yX2_has, Cond.initialized RX2, Cond.code yX2_has cX2_has 2 (some .boolean), Cond.fieldLink RX2 28 "BatchTransfer$Shelf" "count" "I", Cond.methodLink RX7 89 yX0_prepare, Cond.instanceMethod yX0_prepare, Cond.selects RX0 yX0_prepare yX0_prepare]
def wsX7_begin_r3 : List Cond := [Cond.initialized RX0, Cond.code yX0_prepare cX0_prepare 2 none, Cond.fieldLink RX0 14 "BatchTransfer$Receiver" "arrived" "LBatchTransfer$Shelf;", Cond.fieldLink RX0 23 "BatchTransfer$Shelf" "count" "I", Cond.fieldLink RX0 27 "BatchTransfer$Receiver" "anyWasRight" "Z", Cond.fieldLink RX0 31 "BatchTransfer$Receiver" "anyOfFileWasRight" "Z", Cond.methodLink RX0 20 ⟨"BatchTransfer$Receiver", "startWork", "(I)V"⟩, Cond.sameMethod "BatchTransfer$Receiver" "BatchTransfer$Side" "startWork" "(I)V", Cond.selects RX0 ⟨"BatchTransfer$Receiver", "startWork", "(I)V"⟩ yX3_startWork, Cond.methodLink RX0 34 yX0_expectHead, Cond.instanceMethod yX0_expectHead, Cond.selects RX0 yX0_expectHead yX0_expectHead, Cond.code yX0_expectHead cX0_expectHead 1 none, Cond.fieldLink RX0 76 "BatchTransfer$Receiver" "expected" "I", Cond.fieldLink RX0 79 "BatchTransfer$Receiver" "headExpected" "Z", Cond.methodLink RX0 37 yX2_open, Cond.instanceMethod yX2_open, Cond.selects RX2 yX2_open yX2_open, Cond.code yX2_open cX2_open 1 none, Cond.fieldLink RX2 19 "BatchTransfer$Shelf" "starts" "[I", Cond.fieldLink RX2 22 "BatchTransfer$Shelf" "sizes" "[I", Cond.fieldLink RX2 15 "BatchTransfer$Shelf" "nameLengths" "[I", Cond.methodLink RX0 40 yX0_expectBlocks, Cond.instanceMethod yX0_expectBlocks]
def wsX7_begin_r4 : List Cond := [Cond.selects RX0 yX0_expectBlocks yX0_expectBlocks, Cond.code yX0_expectBlocks cX0_expectBlocks 1 none, Cond.methodLink RX7 90 yX7_askOf, Cond.static yX7_askOf, Cond.initialized RX7, Cond.code yX7_askOf cX7_askOf 1 (some .int), Cond.methodLink RX7 94 yX6_putByte, Cond.instanceMethod yX6_putByte, Cond.selects RX6 yX6_putByte yX6_putByte, Cond.initialized RX6, Cond.code yX6_putByte cX6_putByte 2 none, Cond.fieldLink RX6 9 "BatchTransfer$Wire" "bytes" "[B", Cond.fieldLink RX6 15 "BatchTransfer$Wire" "length" "I"]
def wsX7_begin : List Cond := .code yX7_begin cX7_begin 2 (some .boolean) :: ((wsX7_begin_r1 ++ (wsX7_begin_r2 ++ (wsX7_begin_r3 ++ wsX7_begin_r4))) ++ wsX70 ++ wsX10 ++ wsX20 ++ wsX00 ++ wsX60)
def wsX7_spoil : List Cond := .code yX7_spoil cX7_spoil 3 none :: ([.fieldLink RX7 104 "BatchTransfer" "spoilTold" "Z", .fieldLink RX7 107 "BatchTransfer" "spoilAt" "I", .fieldLink RX7 110 "BatchTransfer" "spoilMask" "I"] ++ wsX70)
def wsX7_spoilWire : List Cond := .code yX7_spoilWire cX7_spoilWire 1 none :: ([.fieldLink RX7 104 "BatchTransfer" "spoilTold" "Z", .fieldLink RX7 110 "BatchTransfer" "spoilMask" "I", .fieldLink RX7 19 "BatchTransfer" "wire" "LBatchTransfer$Wire;", .fieldLink RX7 107 "BatchTransfer" "spoilAt" "I", .methodLink RX7 155 yX6_empty, .instanceMethod yX6_empty, .selects RX6 yX6_empty yX6_empty, .initialized RX6, .code yX6_empty cX6_empty 1 none, .fieldLink RX6 15 "BatchTransfer$Wire" "length" "I", .methodLink RX7 158 yX6_damage, .instanceMethod yX6_damage, .selects RX6 yX6_damage yX6_damage, .code yX6_damage cX6_damage 3 none, .fieldLink RX6 9 "BatchTransfer$Wire" "bytes" "[B", .methodLink RX6 23 yJ9_floorMod_7cf53, .static yJ9_floorMod_7cf53, .initialized RJ9, .code yJ9_floorMod_7cf53 cJ9_floorMod_7cf53 3 (some .int)] ++ wsX70 ++ wsX60)
def wsX7_step_r1 : List Cond := [Cond.fieldLink RX7 97 "BatchTransfer" "senderIsNext" "Z", Cond.fieldLink RX7 26 "BatchTransfer" "sender" "LBatchTransfer$Sender;", Cond.fieldLink RX7 19 "BatchTransfer" "wire" "LBatchTransfer$Wire;", Cond.fieldLink RX7 33 "BatchTransfer" "receiver" "LBatchTransfer$Receiver;", Cond.methodLink RX7 83 yX7_isOn, Cond.instanceMethod yX7_isOn, Cond.selects RX7 yX7_isOn yX7_isOn, Cond.initialized RX7, Cond.code yX7_isOn cX7_isOn 1 (some .boolean), Cond.fieldLink RX7 124 "BatchTransfer$Wire" "length" "I", Cond.methodLink RX7 113 yX7_spoilWire, Cond.instanceMethod yX7_spoilWire, Cond.selects RX7 yX7_spoilWire yX7_spoilWire, Cond.code yX7_spoilWire cX7_spoilWire 1 none, Cond.fieldLink RX7 104 "BatchTransfer" "spoilTold" "Z", Cond.fieldLink RX7 110 "BatchTransfer" "spoilMask" "I", Cond.fieldLink RX7 107 "BatchTransfer" "spoilAt" "I", Cond.methodLink RX7 155 yX6_empty, Cond.instanceMethod yX6_empty, Cond.selects RX6 yX6_empty yX6_empty, Cond.initialized RX6, Cond.code yX6_empty cX6_empty 1 none, Cond.fieldLink RX6 15 "BatchTransfer$Wire" "length" "I", Cond.methodLink RX7 158 yX6_damage]
def wsX7_step_r2 : List Cond := [Cond.instanceMethod yX6_damage, Cond.selects RX6 yX6_damage yX6_damage, Cond.code yX6_damage cX6_damage 3 none, Cond.fieldLink RX6 9 "BatchTransfer$Wire" "bytes" "[B", Cond.methodLink RX6 23 yJ9_floorMod_7cf53, Cond.static yJ9_floorMod_7cf53, Cond.initialized RJ9, Cond.code yJ9_floorMod_7cf53 cJ9_floorMod_7cf53 3 (some .int), Cond.methodLink RX7 116 ⟨"BatchTransfer$Sender", "hear", "(LBatchTransfer$Wire;)V"⟩, Cond.sameMethod "BatchTransfer$Sender" "BatchTransfer$Side" "hear" "(LBatchTransfer$Wire;)V", Cond.selects RX1 ⟨"BatchTransfer$Sender", "hear", "(LBatchTransfer$Wire;)V"⟩ yX3_hear, Cond.instanceMethod yX3_hear, Cond.initialized RX3, Cond.code yX3_hear cX3_hear 2 none, Cond.fieldLink RX3 9 "BatchTransfer$Side" "outcome" "I", Cond.methodLink RX3 15 yX6_empty, Cond.methodLink RX3 20 yX6_isByte, Cond.instanceMethod yX6_isByte, Cond.selects RX6 yX6_isByte yX6_isByte, Cond.code yX6_isByte cX6_isByte 2 (some .boolean), Cond.methodLink RX6 19 yX6_get, Cond.instanceMethod yX6_get, Cond.selects RX6 yX6_get yX6_get, Cond.code yX6_get cX6_get 2 (some .int)]
def wsX7_step_r3 : List Cond := [Cond.methodLink RX3 24 ⟨"BatchTransfer$Side", "answer", "(LBatchTransfer$Wire;)V"⟩, Cond.sameMethod "BatchTransfer$Side" "BatchTransfer$Side" "answer" "(LBatchTransfer$Wire;)V", Cond.selects RX0 ⟨"BatchTransfer$Side", "answer", "(LBatchTransfer$Wire;)V"⟩ yX0_answer, Cond.instanceMethod yX0_answer, Cond.initialized RX0, Cond.code yX0_answer cX0_answer 2 none, Cond.fieldLink RX0 43 "BatchTransfer$Receiver" "mode" "I", Cond.sameField "BatchTransfer$Receiver" "BatchTransfer$Side" "mode" "I", Cond.fieldLink RX0 27 "BatchTransfer$Receiver" "anyWasRight" "Z", Cond.methodLink RX0 46 yX6_isRightBlock, Cond.instanceMethod yX6_isRightBlock, Cond.selects RX6 yX6_isRightBlock yX6_isRightBlock, Cond.code yX6_isRightBlock cX6_isRightBlock 4 (some .boolean), Cond.methodLink RX6 35 yX6_dataLength, Cond.instanceMethod yX6_dataLength, Cond.selects RX6 yX6_dataLength yX6_dataLength, Cond.code yX6_dataLength cX6_dataLength 1 (some .int), Cond.methodLink RX6 29 yX6_sum, Cond.instanceMethod yX6_sum, Cond.selects RX6 yX6_sum yX6_sum, Cond.code yX6_sum cX6_sum 4 (some .int), Cond.methodLink RX6 32 yX6_crc, Cond.instanceMethod yX6_crc, Cond.selects RX6 yX6_crc yX6_crc]
def wsX7_step_r4 : List Cond := [Cond.code yX6_crc cX6_crc 5 (some .int), Cond.constant RX6 39 (65535), Cond.methodLink RX0 52 yX0_answerBlock, Cond.instanceMethod yX0_answerBlock, Cond.selects RX0 yX0_answerBlock yX0_answerBlock, Cond.code yX0_answerBlock cX0_answerBlock 3 none, Cond.fieldLink RX0 76 "BatchTransfer$Receiver" "expected" "I", Cond.fieldLink RX0 31 "BatchTransfer$Receiver" "anyOfFileWasRight" "Z", Cond.fieldLink RX0 79 "BatchTransfer$Receiver" "headExpected" "Z", Cond.methodLink RX0 73 yX6_get, Cond.methodLink RX0 82 yX0_takeHead, Cond.instanceMethod yX0_takeHead, Cond.selects RX0 yX0_takeHead yX0_takeHead, Cond.code yX0_takeHead cX0_takeHead 3 none, Cond.fieldLink RX0 104 "BatchTransfer$Receiver" "outcome" "I", Cond.sameField "BatchTransfer$Receiver" "BatchTransfer$Side" "outcome" "I", Cond.fieldLink RX0 14 "BatchTransfer$Receiver" "arrived" "LBatchTransfer$Shelf;", Cond.fieldLink RX0 107 "BatchTransfer$Wire" "bytes" "[B", Cond.fieldLink RX0 119 "BatchTransfer$Receiver" "sizeTold" "I", Cond.methodLink RX0 100 yX0_nameLengthIn, Cond.static yX0_nameLengthIn, Cond.code yX0_nameLengthIn cX0_nameLengthIn 2 (some .int), Cond.methodLink RX0 37 yX2_open, Cond.instanceMethod yX2_open]
def wsX7_step_r5 : List Cond := [Cond.selects RX2 yX2_open yX2_open, Cond.initialized RX2, Cond.code yX2_open cX2_open 1 none, Cond.fieldLink RX2 28 "BatchTransfer$Shelf" "count" "I", Cond.fieldLink RX2 19 "BatchTransfer$Shelf" "starts" "[I", Cond.fieldLink RX2 22 "BatchTransfer$Shelf" "sizes" "[I", Cond.fieldLink RX2 15 "BatchTransfer$Shelf" "nameLengths" "[I", Cond.methodLink RX0 111 yX2_nameLast, Cond.instanceMethod yX2_nameLast, Cond.selects RX2 yX2_nameLast yX2_nameLast, Cond.code yX2_nameLast cX2_nameLast 5 none, Cond.fieldLink RX2 9 "BatchTransfer$Shelf" "names" "[B", Cond.methodLink RX2 32 arraycopyName, Cond.native arraycopyName, Cond.static arraycopyName, Cond.initialized "java/lang/System", Cond.methodLink RX0 115 yX0_numberIn, Cond.static yX0_numberIn, Cond.code yX0_numberIn cX0_numberIn 5 (some .int), Cond.methodLink RX0 40 yX0_expectBlocks, Cond.instanceMethod yX0_expectBlocks, Cond.selects RX0 yX0_expectBlocks yX0_expectBlocks, Cond.code yX0_expectBlocks cX0_expectBlocks 1 none, Cond.methodLink RX0 85 yX0_takeData]
def wsX7_step_r6 : List Cond := [Cond.instanceMethod yX0_takeData, Cond.selects RX0 yX0_takeData yX0_takeData, Cond.code yX0_takeData cX0_takeData 2 none, Cond.methodLink RX0 122 yX6_dataLength, Cond.methodLink RX0 126 yX2_extendLast, Cond.instanceMethod yX2_extendLast, Cond.selects RX2 yX2_extendLast yX2_extendLast, Cond.code yX2_extendLast cX2_extendLast 5 none, Cond.fieldLink RX2 25 "BatchTransfer$Shelf" "data" "[B", Cond.methodLink RX0 88 yX0_acknowledge, Cond.instanceMethod yX0_acknowledge, Cond.selects RX0 yX0_acknowledge yX0_acknowledge, Cond.code yX0_acknowledge cX0_acknowledge 2 none, Cond.fieldLink RX0 97 "BatchTransfer$Receiver" "misses" "I", Cond.sameField "BatchTransfer$Receiver" "BatchTransfer$Side" "misses" "I", Cond.methodLink RX0 70 yX6_putByte, Cond.instanceMethod yX6_putByte, Cond.selects RX6 yX6_putByte yX6_putByte, Cond.code yX6_putByte cX6_putByte 2 none, Cond.methodLink RX0 91 ⟨"BatchTransfer$Receiver", "giveUp", "(LBatchTransfer$Wire;)V"⟩, Cond.sameMethod "BatchTransfer$Receiver" "BatchTransfer$Side" "giveUp" "(LBatchTransfer$Wire;)V", Cond.selects RX0 ⟨"BatchTransfer$Receiver", "giveUp", "(LBatchTransfer$Wire;)V"⟩ yX3_giveUp, Cond.instanceMethod yX3_giveUp, Cond.code yX3_giveUp cX3_giveUp 2 none]
def wsX7_step_r7 : List Cond := [Cond.methodLink RX3 37 yX6_putByte, Cond.methodLink RX0 56 yX6_isByte, Cond.methodLink RX0 59 yX0_answerEnd, Cond.instanceMethod yX0_answerEnd, Cond.selects RX0 yX0_answerEnd yX0_answerEnd, Cond.code yX0_answerEnd cX0_answerEnd 2 none, Cond.methodLink RX0 94 yX0_closeFile, Cond.instanceMethod yX0_closeFile, Cond.selects RX0 yX0_closeFile yX0_closeFile, Cond.code yX0_closeFile cX0_closeFile 1 none, Cond.methodLink RX0 129 yX2_cutLast, Cond.instanceMethod yX2_cutLast, Cond.selects RX2 yX2_cutLast yX2_cutLast, Cond.code yX2_cutLast cX2_cutLast 3 none, Cond.methodLink RX0 34 yX0_expectHead, Cond.instanceMethod yX0_expectHead, Cond.selects RX0 yX0_expectHead yX0_expectHead, Cond.code yX0_expectHead cX0_expectHead 1 none, Cond.methodLink RX0 62 ⟨"BatchTransfer$Receiver", "bearsMiss", "(LBatchTransfer$Wire;)Z"⟩, Cond.sameMethod "BatchTransfer$Receiver" "BatchTransfer$Side" "bearsMiss" "(LBatchTransfer$Wire;)Z", Cond.selects RX0 ⟨"BatchTransfer$Receiver", "bearsMiss", "(LBatchTransfer$Wire;)Z"⟩ yX3_bearsMiss, Cond.instanceMethod yX3_bearsMiss, Cond.code yX3_bearsMiss cX3_bearsMiss 2 (some .boolean), Cond.fieldLink RX3 31 "BatchTransfer$Side" "misses" "I"]
def wsX7_step_r8 : List Cond := [Cond.methodLink RX3 34 ⟨"BatchTransfer$Side", "giveUp", "(LBatchTransfer$Wire;)V"⟩, Cond.sameMethod "BatchTransfer$Side" "BatchTransfer$Side" "giveUp" "(LBatchTransfer$Wire;)V", Cond.selects RX0 ⟨"BatchTransfer$Side", "giveUp", "(LBatchTransfer$Wire;)V"⟩ yX3_giveUp, Cond.selects RX1 ⟨"BatchTransfer$Side", "giveUp", "(LBatchTransfer$Wire;)V"⟩ yX3_giveUp, Cond.static yX7_askOf, Cond.code yX7_askOf cX7_askOf 1 (some .int), Cond.selects RX1 ⟨"BatchTransfer$Side", "answer", "(LBatchTransfer$Wire;)V"⟩ yX1_answer, Cond.instanceMethod yX1_answer, Cond.initialized RX1, Cond.code yX1_answer cX1_answer 2 none, Cond.fieldLink RX1 32 "BatchTransfer$Sender" "asked" "Z", Cond.fieldLink RX1 43 "BatchTransfer$Sender" "mode" "I", Cond.sameField "BatchTransfer$Sender" "BatchTransfer$Side" "mode" "I", Cond.fieldLink RX1 60 "BatchTransfer$Sender" "misses" "I", Cond.sameField "BatchTransfer$Sender" "BatchTransfer$Side" "misses" "I", Cond.methodLink RX1 50 yX6_isByte, Cond.methodLink RX1 56 yX1_putUnit, Cond.instanceMethod yX1_putUnit, Cond.selects RX1 yX1_putUnit yX1_putUnit, Cond.code yX1_putUnit cX1_putUnit 2 none, Cond.fieldLink RX1 85 "BatchTransfer$Sender" "outcome" "I", Cond.sameField "BatchTransfer$Sender" "BatchTransfer$Side" "outcome" "I", Cond.fieldLink RX1 26 "BatchTransfer$Sender" "unit" "LBatchTransfer$Unit;", Cond.fieldLink RX1 20 "BatchTransfer$Unit" "HEAD" "LBatchTransfer$Unit;"]
def wsX7_step_r9 : List Cond := [Cond.fieldLink RX1 73 "BatchTransfer$Unit" "BLOCK" "LBatchTransfer$Unit;", Cond.methodLink RX1 117 yX6_empty, Cond.methodLink RX1 120 yX1_putHead, Cond.instanceMethod yX1_putHead, Cond.selects RX1 yX1_putHead yX1_putHead, Cond.code yX1_putHead cX1_putHead 3 none, Cond.fieldLink RX1 14 "BatchTransfer$Sender" "files" "LBatchTransfer$Shelf;", Cond.fieldLink RX1 36 "BatchTransfer$Sender" "current" "I", Cond.fieldLink RX1 130 "BatchTransfer$Shelf" "nameLengths" "[I", Cond.fieldLink RX1 133 "BatchTransfer$Shelf" "names" "[B", Cond.fieldLink RX1 137 "BatchTransfer$Wire" "bytes" "[B", Cond.methodLink RX1 140 arraycopyName, Cond.fieldLink RX1 98 "BatchTransfer$Shelf" "sizes" "[I", Cond.methodLink RX1 126 yX6_openBlock, Cond.instanceMethod yX6_openBlock, Cond.selects RX6 yX6_openBlock yX6_openBlock, Cond.code yX6_openBlock cX6_openBlock 5 none, Cond.methodLink RX1 82 yX2_has, Cond.instanceMethod yX2_has, Cond.selects RX2 yX2_has yX2_has, Cond.code yX2_has cX2_has 2 (some .boolean), Cond.methodLink RX1 146 yX1_putDigits, Cond.static yX1_putDigits, Cond.code yX1_putDigits cX1_putDigits 5 none]
def wsX7_step_r10 : List Cond := [Cond.methodLink RX1 150 yX6_sealBlock, Cond.instanceMethod yX6_sealBlock, Cond.selects RX6 yX6_sealBlock yX6_sealBlock, Cond.code yX6_sealBlock cX6_sealBlock 3 none, Cond.methodLink RX1 123 yX1_putBlock, Cond.instanceMethod yX1_putBlock, Cond.selects RX1 yX1_putBlock yX1_putBlock, Cond.code yX1_putBlock cX1_putBlock 3 none, Cond.fieldLink RX1 88 "BatchTransfer$Sender" "number" "I", Cond.fieldLink RX1 153 "BatchTransfer$Shelf" "data" "[B", Cond.fieldLink RX1 95 "BatchTransfer$Sender" "offset" "I", Cond.fieldLink RX1 101 "BatchTransfer$Sender" "left" "I", Cond.methodLink RX1 111 Lib.Math.min.name, Cond.static Lib.Math.min.name, Cond.initialized "java/lang/Math", Cond.code Lib.Math.min.name Lib.Math.min.code 2 (some .int), Cond.methodLink RX1 107 yX1_blockLength, Cond.instanceMethod yX1_blockLength, Cond.selects RX1 yX1_blockLength yX1_blockLength, Cond.code yX1_blockLength cX1_blockLength 1 (some .int), Cond.methodLink RX1 70 yX6_putByte, Cond.methodLink RX1 63 yX1_goToNextUnit, Cond.instanceMethod yX1_goToNextUnit, Cond.selects RX1 yX1_goToNextUnit yX1_goToNextUnit]
def wsX7_step_r11 : List Cond := [Cond.code yX1_goToNextUnit cX1_goToNextUnit 1 none, Cond.methodLink RX1 40 yX1_goIntoFile, Cond.instanceMethod yX1_goIntoFile, Cond.selects RX1 yX1_goIntoFile yX1_goIntoFile, Cond.code yX1_goIntoFile cX1_goIntoFile 1 none, Cond.fieldLink RX1 91 "BatchTransfer$Shelf" "starts" "[I", Cond.fieldLink RX1 104 "BatchTransfer$Unit" "END" "LBatchTransfer$Unit;", Cond.methodLink RX1 76 yX1_goBehindBlock, Cond.instanceMethod yX1_goBehindBlock, Cond.selects RX1 yX1_goBehindBlock yX1_goBehindBlock, Cond.code yX1_goBehindBlock cX1_goBehindBlock 2 none, Cond.methodLink RX1 79 yX1_goBehindFile, Cond.instanceMethod yX1_goBehindFile, Cond.selects RX1 yX1_goBehindFile yX1_goBehindFile, Cond.code yX1_goBehindFile cX1_goBehindFile 1 none, Cond.methodLink RX1 66 ⟨"BatchTransfer$Sender", "bearsMiss", "(LBatchTransfer$Wire;)Z"⟩, Cond.sameMethod "BatchTransfer$Sender" "BatchTransfer$Side" "bearsMiss" "(LBatchTransfer$Wire;)Z", Cond.selects RX1 ⟨"BatchTransfer$Sender", "bearsMiss", "(LBatchTransfer$Wire;)Z"⟩ yX3_bearsMiss, Cond.methodLink RX7 120 ⟨"BatchTransfer$Receiver", "hear", "(LBatchTransfer$Wire;)V"⟩, Cond.sameMethod "BatchTransfer$Receiver" "BatchTransfer$Side" "hear" "(LBatchTransfer$Wire;)V", Cond.selects RX0 ⟨"BatchTransfer$Receiver", "hear", "(LBatchTransfer$Wire;)V"⟩ yX3_hear, Cond.methodLink RX7 121 yX6_get]
def wsX7_step : List Cond := .code yX7_step cX7_step 1 (some .int) :: ((wsX7_step_r1 ++ (wsX7_step_r2 ++ (wsX7_step_r3 ++ (wsX7_step_r4 ++ (wsX7_step_r5 ++ (wsX7_step_r6 ++ (wsX7_step_r7 ++ (wsX7_step_r8 ++ (wsX7_step_r9 ++ (wsX7_step_r10 ++ wsX7_step_r11)))))))))) ++ wsX70 ++ wsX60 ++ wsX00 ++ wsX10 ++ wsX20)
def wsX7_line : List Cond := .code yX7_line cX7_line 1 (some .int) :: ([.fieldLink RX7 19 "BatchTransfer" "wire" "LBatchTransfer$Wire;", .fieldLink RX7 124 "BatchTransfer$Wire" "length" "I"] ++ wsX70 ++ wsX60)
def wsX7_lineAt : List Cond := .code yX7_lineAt cX7_lineAt 2 (some .int) :: ([.classLink RX7 125 "java/util/NoSuchElementException", .initialized "java/util/NoSuchElementException", .fieldLink RX7 19 "BatchTransfer" "wire" "LBatchTransfer$Wire;", .fieldLink RX7 124 "BatchTransfer$Wire" "length" "I", .methodLink RX7 121 yX6_get, .instanceMethod yX6_get, .selects RX6 yX6_get yX6_get, .initialized RX6, .code yX6_get cX6_get 2 (some .int), .fieldLink RX6 9 "BatchTransfer$Wire" "bytes" "[B"] ++ wsX70 ++ wsX60 ++ (vx_at0 RX7 127 "java/util/NoSuchElementException" ["java/lang/RuntimeException", "java/lang/Exception"]).filter goodWord)
def wsX7_state : List Cond := .code yX7_state cX7_state 2 (some .int) :: ([.fieldLink RX7 101 "BatchTransfer" "everBegun" "Z", .fieldLink RX7 26 "BatchTransfer" "sender" "LBatchTransfer$Sender;", .fieldLink RX7 128 "BatchTransfer$Sender" "outcome" "I", .sameField "BatchTransfer$Sender" "BatchTransfer$Side" "outcome" "I", .fieldLink RX7 33 "BatchTransfer" "receiver" "LBatchTransfer$Receiver;", .fieldLink RX7 131 "BatchTransfer$Receiver" "outcome" "I", .sameField "BatchTransfer$Receiver" "BatchTransfer$Side" "outcome" "I"] ++ wsX70 ++ wsX00 ++ wsX10)
def wsX7_received : List Cond := .code yX7_received cX7_received 1 (some .int) :: ([.fieldLink RX7 33 "BatchTransfer" "receiver" "LBatchTransfer$Receiver;", .fieldLink RX7 132 "BatchTransfer$Receiver" "arrived" "LBatchTransfer$Shelf;", .fieldLink RX7 73 "BatchTransfer$Shelf" "count" "I"] ++ wsX70 ++ wsX00 ++ wsX20)
def wsX7_size : List Cond := .code yX7_size cX7_size 2 (some .int) :: ([.fieldLink RX7 33 "BatchTransfer" "receiver" "LBatchTransfer$Receiver;", .fieldLink RX7 132 "BatchTransfer$Receiver" "arrived" "LBatchTransfer$Shelf;", .fieldLink RX7 139 "BatchTransfer$Shelf" "sizes" "[I", .methodLink RX7 135 yX2_has, .instanceMethod yX2_has, .selects RX2 yX2_has yX2_has, .initialized RX2, .code yX2_has cX2_has 2 (some .boolean), .fieldLink RX2 28 "BatchTransfer$Shelf" "count" "I"] ++ wsX70 ++ wsX00 ++ wsX20)
def wsX7_byteAt : List Cond := .code yX7_byteAt cX7_byteAt 4 (some .int) :: ([.classLink RX7 125 "java/util/NoSuchElementException", .initialized "java/util/NoSuchElementException", .fieldLink RX7 33 "BatchTransfer" "receiver" "LBatchTransfer$Receiver;", .fieldLink RX7 132 "BatchTransfer$Receiver" "arrived" "LBatchTransfer$Shelf;", .fieldLink RX7 139 "BatchTransfer$Shelf" "sizes" "[I", .fieldLink RX7 143 "BatchTransfer$Shelf" "data" "[B", .fieldLink RX7 146 "BatchTransfer$Shelf" "starts" "[I", .methodLink RX7 135 yX2_has, .instanceMethod yX2_has, .selects RX2 yX2_has yX2_has, .initialized RX2, .code yX2_has cX2_has 2 (some .boolean), .fieldLink RX2 28 "BatchTransfer$Shelf" "count" "I"] ++ wsX70 ++ wsX00 ++ wsX20 ++ (vx_at0 RX7 127 "java/util/NoSuchElementException" ["java/lang/RuntimeException", "java/lang/Exception"]).filter goodWord)
def wsX7_nameAt : List Cond := .code yX7_nameAt cX7_nameAt 4 (some .int) :: ([.fieldLink RX7 33 "BatchTransfer" "receiver" "LBatchTransfer$Receiver;", .fieldLink RX7 132 "BatchTransfer$Receiver" "arrived" "LBatchTransfer$Shelf;", .fieldLink RX7 149 "BatchTransfer$Shelf" "nameLengths" "[I", .fieldLink RX7 152 "BatchTransfer$Shelf" "names" "[B", .methodLink RX7 135 yX2_has, .instanceMethod yX2_has, .selects RX2 yX2_has yX2_has, .initialized RX2, .code yX2_has cX2_has 2 (some .boolean), .fieldLink RX2 28 "BatchTransfer$Shelf" "count" "I"] ++ wsX70 ++ wsX00 ++ wsX20)
def wsX8_init_r1 : List Cond := [Cond.methodLink RX8 1 objectInit, Cond.instanceMethod objectInit, Cond.code objectInit ⟨#[0xb1]⟩ 1 none, Cond.fieldLink RX8 7 "BatchTransferModel" "thrownCode" "I", Cond.arrayClass .int, Cond.fieldLink RX8 13 "BatchTransferModel" "nibbles" "[I", Cond.arrayClass .byte, Cond.fieldLink RX8 17 "BatchTransferModel" "tape" "[B", Cond.fieldLink RX8 21 "BatchTransferModel" "tapeLen" "I", Cond.fieldLink RX8 24 "BatchTransferModel" "files" "I", Cond.fieldLink RX8 27 "BatchTransferModel" "name" "[B", Cond.fieldLink RX8 30 "BatchTransferModel" "nameLen" "[I", Cond.fieldLink RX8 33 "BatchTransferModel" "data" "[B", Cond.fieldLink RX8 36 "BatchTransferModel" "dataLen" "[I", Cond.fieldLink RX8 39 "BatchTransferModel" "units" "I", Cond.fieldLink RX8 42 "BatchTransferModel" "uKind" "[I", Cond.fieldLink RX8 45 "BatchTransferModel" "uFile" "[I", Cond.fieldLink RX8 48 "BatchTransferModel" "uFrom" "[I", Cond.fieldLink RX8 51 "BatchTransferModel" "uSize" "[I", Cond.fieldLink RX8 54 "BatchTransferModel" "uNumber" "[I", Cond.fieldLink RX8 57 "BatchTransferModel" "on" "Z", Cond.fieldLink RX8 61 "BatchTransferModel" "any" "Z", Cond.fieldLink RX8 64 "BatchTransferModel" "mode" "I", Cond.fieldLink RX8 67 "BatchTransferModel" "wire" "[B"]
def wsX8_init_r2 : List Cond := [Cond.fieldLink RX8 70 "BatchTransferModel" "wireLen" "I", Cond.fieldLink RX8 73 "BatchTransferModel" "toSender" "Z", Cond.fieldLink RX8 76 "BatchTransferModel" "told" "Z", Cond.fieldLink RX8 79 "BatchTransferModel" "toldAt" "I", Cond.fieldLink RX8 82 "BatchTransferModel" "toldMask" "I", Cond.fieldLink RX8 85 "BatchTransferModel" "senderState" "I", Cond.fieldLink RX8 88 "BatchTransferModel" "senderMisses" "I", Cond.fieldLink RX8 91 "BatchTransferModel" "unit" "I", Cond.fieldLink RX8 94 "BatchTransferModel" "receiverState" "I", Cond.fieldLink RX8 97 "BatchTransferModel" "receiverMisses" "I", Cond.fieldLink RX8 100 "BatchTransferModel" "expected" "I", Cond.fieldLink RX8 103 "BatchTransferModel" "wantsHead" "Z", Cond.fieldLink RX8 106 "BatchTransferModel" "everRight" "Z", Cond.fieldLink RX8 109 "BatchTransferModel" "rightOfFile" "Z", Cond.fieldLink RX8 112 "BatchTransferModel" "gotFiles" "I", Cond.fieldLink RX8 115 "BatchTransferModel" "gotName" "[B", Cond.fieldLink RX8 118 "BatchTransferModel" "gotNameLen" "[I", Cond.fieldLink RX8 121 "BatchTransferModel" "got" "[B", Cond.fieldLink RX8 124 "BatchTransferModel" "gotLen" "[I", Cond.fieldLink RX8 127 "BatchTransferModel" "headSize" "I", Cond.constant RX8 130 (32768), Cond.constant RX8 131 (65535)]
def wsX8_init : List Cond := .code yX8_init cX8_init 4 none :: ((wsX8_init_r1 ++ wsX8_init_r2) ++ wsX80)
def wsX8_thrown : List Cond := .code yX8_thrown cX8_thrown 1 (some .int) :: ([.fieldLink RX8 7 "BatchTransferModel" "thrownCode" "I"] ++ wsX80)
def wsX8_feed : List Cond := .code yX8_feed cX8_feed 8 (some .boolean) :: ([.fieldLink RX8 7 "BatchTransferModel" "thrownCode" "I", .fieldLink RX8 21 "BatchTransferModel" "tapeLen" "I", .fieldLink RX8 17 "BatchTransferModel" "tape" "[B"] ++ wsX80)
def wsX8_end : List Cond := .code yX8_end cX8_end 2 (some .boolean) :: ([.fieldLink RX8 7 "BatchTransferModel" "thrownCode" "I", .fieldLink RX8 21 "BatchTransferModel" "tapeLen" "I"] ++ wsX80)
def wsX8_file : List Cond := .code yX8_file cX8_file 4 (some .int) :: ([.fieldLink RX8 7 "BatchTransferModel" "thrownCode" "I", .fieldLink RX8 21 "BatchTransferModel" "tapeLen" "I", .fieldLink RX8 17 "BatchTransferModel" "tape" "[B", .fieldLink RX8 24 "BatchTransferModel" "files" "I", .fieldLink RX8 57 "BatchTransferModel" "on" "Z", .fieldLink RX8 27 "BatchTransferModel" "name" "[B", .fieldLink RX8 30 "BatchTransferModel" "nameLen" "[I", .fieldLink RX8 36 "BatchTransferModel" "dataLen" "[I", .fieldLink RX8 33 "BatchTransferModel" "data" "[B"] ++ wsX80)
def wsX8_made : List Cond := .code yX8_made cX8_made 4 (some .int) :: ([.fieldLink RX8 7 "BatchTransferModel" "thrownCode" "I", .fieldLink RX8 24 "BatchTransferModel" "files" "I", .fieldLink RX8 57 "BatchTransferModel" "on" "Z", .fieldLink RX8 27 "BatchTransferModel" "name" "[B", .fieldLink RX8 30 "BatchTransferModel" "nameLen" "[I", .fieldLink RX8 36 "BatchTransferModel" "dataLen" "[I", .fieldLink RX8 33 "BatchTransferModel" "data" "[B"] ++ wsX80)
def wsX8_clear : List Cond := .code yX8_clear cX8_clear 1 (some .boolean) :: ([.fieldLink RX8 7 "BatchTransferModel" "thrownCode" "I", .fieldLink RX8 57 "BatchTransferModel" "on" "Z", .fieldLink RX8 24 "BatchTransferModel" "files" "I"] ++ wsX80)
def wsX8_unitOf : List Cond := .code yX8_unitOf cX8_unitOf 6 none :: ([.fieldLink RX8 42 "BatchTransferModel" "uKind" "[I", .fieldLink RX8 39 "BatchTransferModel" "units" "I", .fieldLink RX8 45 "BatchTransferModel" "uFile" "[I", .fieldLink RX8 48 "BatchTransferModel" "uFrom" "[I", .fieldLink RX8 51 "BatchTransferModel" "uSize" "[I", .fieldLink RX8 54 "BatchTransferModel" "uNumber" "[I"] ++ wsX80)
def wsX8_layOut : List Cond := .code yX8_layOut cX8_layOut 6 none :: ([.fieldLink RX8 39 "BatchTransferModel" "units" "I", .fieldLink RX8 64 "BatchTransferModel" "mode" "I", .fieldLink RX8 24 "BatchTransferModel" "files" "I", .fieldLink RX8 36 "BatchTransferModel" "dataLen" "[I", .methodLink RX8 132 yX8_unitOf, .instanceMethod yX8_unitOf, .selects RX8 yX8_unitOf yX8_unitOf, .initialized RX8, .code yX8_unitOf cX8_unitOf 6 none, .fieldLink RX8 42 "BatchTransferModel" "uKind" "[I", .fieldLink RX8 45 "BatchTransferModel" "uFile" "[I", .fieldLink RX8 48 "BatchTransferModel" "uFrom" "[I", .fieldLink RX8 51 "BatchTransferModel" "uSize" "[I", .fieldLink RX8 54 "BatchTransferModel" "uNumber" "[I"] ++ wsX80)
def wsX8_byteOn : List Cond := .code yX8_byteOn cX8_byteOn 2 none :: ([.fieldLink RX8 67 "BatchTransferModel" "wire" "[B", .fieldLink RX8 70 "BatchTransferModel" "wireLen" "I"] ++ wsX80)
def wsX8_check : List Cond := .code yX8_check cX8_check 6 (some .int) :: ([.fieldLink RX8 67 "BatchTransferModel" "wire" "[B", .fieldLink RX8 64 "BatchTransferModel" "mode" "I", .constant RX8 131 (65535), .fieldLink RX8 13 "BatchTransferModel" "nibbles" "[I"] ++ wsX80)
def wsX8_sendUnit : List Cond := .code yX8_sendUnit cX8_sendUnit 8 none :: ([.fieldLink RX8 42 "BatchTransferModel" "uKind" "[I", .fieldLink RX8 91 "BatchTransferModel" "unit" "I", .fieldLink RX8 51 "BatchTransferModel" "uSize" "[I", .fieldLink RX8 45 "BatchTransferModel" "uFile" "[I", .fieldLink RX8 67 "BatchTransferModel" "wire" "[B", .fieldLink RX8 54 "BatchTransferModel" "uNumber" "[I", .fieldLink RX8 48 "BatchTransferModel" "uFrom" "[I", .fieldLink RX8 36 "BatchTransferModel" "dataLen" "[I", .fieldLink RX8 33 "BatchTransferModel" "data" "[B", .fieldLink RX8 30 "BatchTransferModel" "nameLen" "[I", .fieldLink RX8 27 "BatchTransferModel" "name" "[B", .fieldLink RX8 70 "BatchTransferModel" "wireLen" "I", .fieldLink RX8 64 "BatchTransferModel" "mode" "I", .methodLink RX8 136 yX8_byteOn, .instanceMethod yX8_byteOn, .selects RX8 yX8_byteOn yX8_byteOn, .initialized RX8, .code yX8_byteOn cX8_byteOn 2 none, .methodLink RX8 140 yX8_check, .instanceMethod yX8_check, .selects RX8 yX8_check yX8_check, .code yX8_check cX8_check 6 (some .int), .constant RX8 131 (65535), .fieldLink RX8 13 "BatchTransferModel" "nibbles" "[I"] ++ wsX80)
def wsX8_ask : List Cond := .code yX8_ask cX8_ask 1 (some .int) :: ([.fieldLink RX8 64 "BatchTransferModel" "mode" "I"] ++ wsX80)
def wsX8_begin_r1 : List Cond := [Cond.fieldLink RX8 7 "BatchTransferModel" "thrownCode" "I", Cond.fieldLink RX8 24 "BatchTransferModel" "files" "I", Cond.fieldLink RX8 64 "BatchTransferModel" "mode" "I", Cond.fieldLink RX8 57 "BatchTransferModel" "on" "Z", Cond.fieldLink RX8 61 "BatchTransferModel" "any" "Z", Cond.fieldLink RX8 85 "BatchTransferModel" "senderState" "I", Cond.fieldLink RX8 88 "BatchTransferModel" "senderMisses" "I", Cond.fieldLink RX8 91 "BatchTransferModel" "unit" "I", Cond.fieldLink RX8 94 "BatchTransferModel" "receiverState" "I", Cond.fieldLink RX8 97 "BatchTransferModel" "receiverMisses" "I", Cond.fieldLink RX8 103 "BatchTransferModel" "wantsHead" "Z", Cond.fieldLink RX8 100 "BatchTransferModel" "expected" "I", Cond.fieldLink RX8 106 "BatchTransferModel" "everRight" "Z", Cond.fieldLink RX8 109 "BatchTransferModel" "rightOfFile" "Z", Cond.fieldLink RX8 112 "BatchTransferModel" "gotFiles" "I", Cond.fieldLink RX8 118 "BatchTransferModel" "gotNameLen" "[I", Cond.fieldLink RX8 124 "BatchTransferModel" "gotLen" "[I", Cond.fieldLink RX8 127 "BatchTransferModel" "headSize" "I", Cond.fieldLink RX8 73 "BatchTransferModel" "toSender" "Z", Cond.methodLink RX8 144 yX8_layOut, Cond.instanceMethod yX8_layOut, Cond.selects RX8 yX8_layOut yX8_layOut, Cond.initialized RX8, Cond.code yX8_layOut cX8_layOut 6 none]
def wsX8_begin_r2 : List Cond := [Cond.fieldLink RX8 39 "BatchTransferModel" "units" "I", Cond.fieldLink RX8 36 "BatchTransferModel" "dataLen" "[I", Cond.methodLink RX8 132 yX8_unitOf, Cond.instanceMethod yX8_unitOf, Cond.selects RX8 yX8_unitOf yX8_unitOf, Cond.code yX8_unitOf cX8_unitOf 6 none, Cond.fieldLink RX8 42 "BatchTransferModel" "uKind" "[I", Cond.fieldLink RX8 45 "BatchTransferModel" "uFile" "[I", Cond.fieldLink RX8 48 "BatchTransferModel" "uFrom" "[I", Cond.fieldLink RX8 51 "BatchTransferModel" "uSize" "[I", Cond.fieldLink RX8 54 "BatchTransferModel" "uNumber" "[I", Cond.methodLink RX8 147 yX8_ask, Cond.instanceMethod yX8_ask, Cond.selects RX8 yX8_ask yX8_ask, Cond.code yX8_ask cX8_ask 1 (some .int), Cond.methodLink RX8 136 yX8_byteOn, Cond.instanceMethod yX8_byteOn, Cond.selects RX8 yX8_byteOn yX8_byteOn, Cond.code yX8_byteOn cX8_byteOn 2 none, Cond.fieldLink RX8 67 "BatchTransferModel" "wire" "[B", Cond.fieldLink RX8 70 "BatchTransferModel" "wireLen" "I"]
def wsX8_begin : List Cond := .code yX8_begin cX8_begin 2 (some .boolean) :: ((wsX8_begin_r1 ++ wsX8_begin_r2) ++ wsX80)
def wsX8_spoil : List Cond := .code yX8_spoil cX8_spoil 3 none :: ([.fieldLink RX8 7 "BatchTransferModel" "thrownCode" "I", .fieldLink RX8 76 "BatchTransferModel" "told" "Z", .fieldLink RX8 79 "BatchTransferModel" "toldAt" "I", .fieldLink RX8 82 "BatchTransferModel" "toldMask" "I"] ++ wsX80)
def wsX8_senderMiss_r1 : List Cond := [Cond.fieldLink RX8 88 "BatchTransferModel" "senderMisses" "I", Cond.fieldLink RX8 85 "BatchTransferModel" "senderState" "I", Cond.methodLink RX8 136 yX8_byteOn, Cond.instanceMethod yX8_byteOn, Cond.selects RX8 yX8_byteOn yX8_byteOn, Cond.initialized RX8, Cond.code yX8_byteOn cX8_byteOn 2 none, Cond.fieldLink RX8 67 "BatchTransferModel" "wire" "[B", Cond.fieldLink RX8 70 "BatchTransferModel" "wireLen" "I", Cond.methodLink RX8 151 yX8_sendUnit, Cond.instanceMethod yX8_sendUnit, Cond.selects RX8 yX8_sendUnit yX8_sendUnit, Cond.code yX8_sendUnit cX8_sendUnit 8 none, Cond.fieldLink RX8 42 "BatchTransferModel" "uKind" "[I", Cond.fieldLink RX8 91 "BatchTransferModel" "unit" "I", Cond.fieldLink RX8 51 "BatchTransferModel" "uSize" "[I", Cond.fieldLink RX8 45 "BatchTransferModel" "uFile" "[I", Cond.fieldLink RX8 54 "BatchTransferModel" "uNumber" "[I", Cond.fieldLink RX8 48 "BatchTransferModel" "uFrom" "[I", Cond.fieldLink RX8 36 "BatchTransferModel" "dataLen" "[I", Cond.fieldLink RX8 33 "BatchTransferModel" "data" "[B", Cond.fieldLink RX8 30 "BatchTransferModel" "nameLen" "[I", Cond.fieldLink RX8 27 "BatchTransferModel" "name" "[B", Cond.fieldLink RX8 64 "BatchTransferModel" "mode" "I"]
def wsX8_senderMiss_r2 : List Cond := [Cond.methodLink RX8 140 yX8_check, Cond.instanceMethod yX8_check, Cond.selects RX8 yX8_check yX8_check, Cond.code yX8_check cX8_check 6 (some .int), Cond.constant RX8 131 (65535), Cond.fieldLink RX8 13 "BatchTransferModel" "nibbles" "[I"]
def wsX8_senderMiss : List Cond := .code yX8_senderMiss cX8_senderMiss 2 none :: ((wsX8_senderMiss_r1 ++ wsX8_senderMiss_r2) ++ wsX80)
def wsX8_senderGets_r1 : List Cond := [Cond.fieldLink RX8 70 "BatchTransferModel" "wireLen" "I", Cond.fieldLink RX8 67 "BatchTransferModel" "wire" "[B", Cond.fieldLink RX8 85 "BatchTransferModel" "senderState" "I", Cond.fieldLink RX8 91 "BatchTransferModel" "unit" "I", Cond.fieldLink RX8 88 "BatchTransferModel" "senderMisses" "I", Cond.fieldLink RX8 39 "BatchTransferModel" "units" "I", Cond.methodLink RX8 147 yX8_ask, Cond.instanceMethod yX8_ask, Cond.selects RX8 yX8_ask yX8_ask, Cond.initialized RX8, Cond.code yX8_ask cX8_ask 1 (some .int), Cond.fieldLink RX8 64 "BatchTransferModel" "mode" "I", Cond.methodLink RX8 154 yX8_senderMiss, Cond.instanceMethod yX8_senderMiss, Cond.selects RX8 yX8_senderMiss yX8_senderMiss, Cond.code yX8_senderMiss cX8_senderMiss 2 none, Cond.methodLink RX8 136 yX8_byteOn, Cond.instanceMethod yX8_byteOn, Cond.selects RX8 yX8_byteOn yX8_byteOn, Cond.code yX8_byteOn cX8_byteOn 2 none, Cond.methodLink RX8 151 yX8_sendUnit, Cond.instanceMethod yX8_sendUnit, Cond.selects RX8 yX8_sendUnit yX8_sendUnit, Cond.code yX8_sendUnit cX8_sendUnit 8 none]
def wsX8_senderGets_r2 : List Cond := [Cond.fieldLink RX8 42 "BatchTransferModel" "uKind" "[I", Cond.fieldLink RX8 51 "BatchTransferModel" "uSize" "[I", Cond.fieldLink RX8 45 "BatchTransferModel" "uFile" "[I", Cond.fieldLink RX8 54 "BatchTransferModel" "uNumber" "[I", Cond.fieldLink RX8 48 "BatchTransferModel" "uFrom" "[I", Cond.fieldLink RX8 36 "BatchTransferModel" "dataLen" "[I", Cond.fieldLink RX8 33 "BatchTransferModel" "data" "[B", Cond.fieldLink RX8 30 "BatchTransferModel" "nameLen" "[I", Cond.fieldLink RX8 27 "BatchTransferModel" "name" "[B", Cond.methodLink RX8 140 yX8_check, Cond.instanceMethod yX8_check, Cond.selects RX8 yX8_check yX8_check, Cond.code yX8_check cX8_check 6 (some .int), Cond.constant RX8 131 (65535), Cond.fieldLink RX8 13 "BatchTransferModel" "nibbles" "[I"]
def wsX8_senderGets : List Cond := .code yX8_senderGets cX8_senderGets 4 none :: ((wsX8_senderGets_r1 ++ wsX8_senderGets_r2) ++ wsX80)
def wsX8_receiverMiss : List Cond := .code yX8_receiverMiss cX8_receiverMiss 1 none :: ([.fieldLink RX8 97 "BatchTransferModel" "receiverMisses" "I", .fieldLink RX8 94 "BatchTransferModel" "receiverState" "I", .fieldLink RX8 106 "BatchTransferModel" "everRight" "Z", .methodLink RX8 136 yX8_byteOn, .instanceMethod yX8_byteOn, .selects RX8 yX8_byteOn yX8_byteOn, .initialized RX8, .code yX8_byteOn cX8_byteOn 2 none, .fieldLink RX8 67 "BatchTransferModel" "wire" "[B", .fieldLink RX8 70 "BatchTransferModel" "wireLen" "I", .methodLink RX8 147 yX8_ask, .instanceMethod yX8_ask, .selects RX8 yX8_ask yX8_ask, .code yX8_ask cX8_ask 1 (some .int), .fieldLink RX8 64 "BatchTransferModel" "mode" "I"] ++ wsX80)
def wsX8_isRight : List Cond := .code yX8_isRight cX8_isRight 4 (some .boolean) :: ([.fieldLink RX8 64 "BatchTransferModel" "mode" "I", .fieldLink RX8 67 "BatchTransferModel" "wire" "[B", .fieldLink RX8 70 "BatchTransferModel" "wireLen" "I", .methodLink RX8 140 yX8_check, .instanceMethod yX8_check, .selects RX8 yX8_check yX8_check, .initialized RX8, .code yX8_check cX8_check 6 (some .int), .constant RX8 131 (65535), .fieldLink RX8 13 "BatchTransferModel" "nibbles" "[I"] ++ wsX80)
def wsX8_fileEnds : List Cond := .code yX8_fileEnds cX8_fileEnds 2 none :: ([.fieldLink RX8 103 "BatchTransferModel" "wantsHead" "Z", .fieldLink RX8 112 "BatchTransferModel" "gotFiles" "I", .fieldLink RX8 64 "BatchTransferModel" "mode" "I", .fieldLink RX8 94 "BatchTransferModel" "receiverState" "I", .fieldLink RX8 124 "BatchTransferModel" "gotLen" "[I", .fieldLink RX8 127 "BatchTransferModel" "headSize" "I", .fieldLink RX8 100 "BatchTransferModel" "expected" "I", .fieldLink RX8 109 "BatchTransferModel" "rightOfFile" "Z"] ++ wsX80)
def wsX8_head : List Cond := .code yX8_head cX8_head 5 none :: ([.fieldLink RX8 67 "BatchTransferModel" "wire" "[B", .fieldLink RX8 94 "BatchTransferModel" "receiverState" "I", .fieldLink RX8 112 "BatchTransferModel" "gotFiles" "I", .fieldLink RX8 118 "BatchTransferModel" "gotNameLen" "[I", .fieldLink RX8 115 "BatchTransferModel" "gotName" "[B", .fieldLink RX8 124 "BatchTransferModel" "gotLen" "[I", .fieldLink RX8 127 "BatchTransferModel" "headSize" "I", .fieldLink RX8 103 "BatchTransferModel" "wantsHead" "Z", .fieldLink RX8 100 "BatchTransferModel" "expected" "I"] ++ wsX80)
def wsX8_keep : List Cond := .code yX8_keep cX8_keep 4 none :: ([.fieldLink RX8 112 "BatchTransferModel" "gotFiles" "I", .fieldLink RX8 67 "BatchTransferModel" "wire" "[B", .fieldLink RX8 121 "BatchTransferModel" "got" "[B", .fieldLink RX8 124 "BatchTransferModel" "gotLen" "[I", .fieldLink RX8 100 "BatchTransferModel" "expected" "I"] ++ wsX80)
def wsX8_receiverGets_r1 : List Cond := [Cond.fieldLink RX8 94 "BatchTransferModel" "receiverState" "I", Cond.fieldLink RX8 70 "BatchTransferModel" "wireLen" "I", Cond.fieldLink RX8 67 "BatchTransferModel" "wire" "[B", Cond.fieldLink RX8 97 "BatchTransferModel" "receiverMisses" "I", Cond.fieldLink RX8 100 "BatchTransferModel" "expected" "I", Cond.fieldLink RX8 106 "BatchTransferModel" "everRight" "Z", Cond.fieldLink RX8 109 "BatchTransferModel" "rightOfFile" "Z", Cond.fieldLink RX8 103 "BatchTransferModel" "wantsHead" "Z", Cond.methodLink RX8 158 yX8_fileEnds, Cond.instanceMethod yX8_fileEnds, Cond.selects RX8 yX8_fileEnds yX8_fileEnds, Cond.initialized RX8, Cond.code yX8_fileEnds cX8_fileEnds 2 none, Cond.fieldLink RX8 112 "BatchTransferModel" "gotFiles" "I", Cond.fieldLink RX8 64 "BatchTransferModel" "mode" "I", Cond.fieldLink RX8 124 "BatchTransferModel" "gotLen" "[I", Cond.fieldLink RX8 127 "BatchTransferModel" "headSize" "I", Cond.methodLink RX8 136 yX8_byteOn, Cond.instanceMethod yX8_byteOn, Cond.selects RX8 yX8_byteOn yX8_byteOn, Cond.code yX8_byteOn cX8_byteOn 2 none, Cond.methodLink RX8 161 yX8_isRight, Cond.instanceMethod yX8_isRight, Cond.selects RX8 yX8_isRight yX8_isRight]
def wsX8_receiverGets_r2 : List Cond := [Cond.code yX8_isRight cX8_isRight 4 (some .boolean), Cond.methodLink RX8 140 yX8_check, Cond.instanceMethod yX8_check, Cond.selects RX8 yX8_check yX8_check, Cond.code yX8_check cX8_check 6 (some .int), Cond.constant RX8 131 (65535), Cond.fieldLink RX8 13 "BatchTransferModel" "nibbles" "[I", Cond.methodLink RX8 165 yX8_receiverMiss, Cond.instanceMethod yX8_receiverMiss, Cond.selects RX8 yX8_receiverMiss yX8_receiverMiss, Cond.code yX8_receiverMiss cX8_receiverMiss 1 none, Cond.methodLink RX8 147 yX8_ask, Cond.instanceMethod yX8_ask, Cond.selects RX8 yX8_ask yX8_ask, Cond.code yX8_ask cX8_ask 1 (some .int), Cond.methodLink RX8 168 yX8_head, Cond.instanceMethod yX8_head, Cond.selects RX8 yX8_head yX8_head, Cond.code yX8_head cX8_head 5 none, Cond.fieldLink RX8 118 "BatchTransferModel" "gotNameLen" "[I", Cond.fieldLink RX8 115 "BatchTransferModel" "gotName" "[B", Cond.methodLink RX8 171 yX8_keep, Cond.instanceMethod yX8_keep, Cond.selects RX8 yX8_keep yX8_keep]
def wsX8_receiverGets_r3 : List Cond := [Cond.code yX8_keep cX8_keep 4 none, Cond.fieldLink RX8 121 "BatchTransferModel" "got" "[B"]
def wsX8_receiverGets : List Cond := .code yX8_receiverGets cX8_receiverGets 3 none :: ((wsX8_receiverGets_r1 ++ (wsX8_receiverGets_r2 ++ wsX8_receiverGets_r3)) ++ wsX80)
def wsX8_step_r1 : List Cond := [Cond.fieldLink RX8 7 "BatchTransferModel" "thrownCode" "I", Cond.fieldLink RX8 57 "BatchTransferModel" "on" "Z", Cond.fieldLink RX8 76 "BatchTransferModel" "told" "Z", Cond.fieldLink RX8 82 "BatchTransferModel" "toldMask" "I", Cond.fieldLink RX8 79 "BatchTransferModel" "toldAt" "I", Cond.fieldLink RX8 70 "BatchTransferModel" "wireLen" "I", Cond.fieldLink RX8 67 "BatchTransferModel" "wire" "[B", Cond.fieldLink RX8 73 "BatchTransferModel" "toSender" "Z", Cond.methodLink RX8 174 yX8_senderGets, Cond.instanceMethod yX8_senderGets, Cond.selects RX8 yX8_senderGets yX8_senderGets, Cond.initialized RX8, Cond.code yX8_senderGets cX8_senderGets 4 none, Cond.fieldLink RX8 85 "BatchTransferModel" "senderState" "I", Cond.fieldLink RX8 91 "BatchTransferModel" "unit" "I", Cond.fieldLink RX8 88 "BatchTransferModel" "senderMisses" "I", Cond.fieldLink RX8 39 "BatchTransferModel" "units" "I", Cond.methodLink RX8 147 yX8_ask, Cond.instanceMethod yX8_ask, Cond.selects RX8 yX8_ask yX8_ask, Cond.code yX8_ask cX8_ask 1 (some .int), Cond.fieldLink RX8 64 "BatchTransferModel" "mode" "I", Cond.methodLink RX8 154 yX8_senderMiss, Cond.instanceMethod yX8_senderMiss]
def wsX8_step_r2 : List Cond := [Cond.selects RX8 yX8_senderMiss yX8_senderMiss, Cond.code yX8_senderMiss cX8_senderMiss 2 none, Cond.methodLink RX8 136 yX8_byteOn, Cond.instanceMethod yX8_byteOn, Cond.selects RX8 yX8_byteOn yX8_byteOn, Cond.code yX8_byteOn cX8_byteOn 2 none, Cond.methodLink RX8 151 yX8_sendUnit, Cond.instanceMethod yX8_sendUnit, Cond.selects RX8 yX8_sendUnit yX8_sendUnit, Cond.code yX8_sendUnit cX8_sendUnit 8 none, Cond.fieldLink RX8 42 "BatchTransferModel" "uKind" "[I", Cond.fieldLink RX8 51 "BatchTransferModel" "uSize" "[I", Cond.fieldLink RX8 45 "BatchTransferModel" "uFile" "[I", Cond.fieldLink RX8 54 "BatchTransferModel" "uNumber" "[I", Cond.fieldLink RX8 48 "BatchTransferModel" "uFrom" "[I", Cond.fieldLink RX8 36 "BatchTransferModel" "dataLen" "[I", Cond.fieldLink RX8 33 "BatchTransferModel" "data" "[B", Cond.fieldLink RX8 30 "BatchTransferModel" "nameLen" "[I", Cond.fieldLink RX8 27 "BatchTransferModel" "name" "[B", Cond.methodLink RX8 140 yX8_check, Cond.instanceMethod yX8_check, Cond.selects RX8 yX8_check yX8_check, Cond.code yX8_check cX8_check 6 (some .int), Cond.constant RX8 131 (65535)]
def wsX8_step_r3 : List Cond := [Cond.fieldLink RX8 13 "BatchTransferModel" "nibbles" "[I", Cond.methodLink RX8 177 yX8_receiverGets, Cond.instanceMethod yX8_receiverGets, Cond.selects RX8 yX8_receiverGets yX8_receiverGets, Cond.code yX8_receiverGets cX8_receiverGets 3 none, Cond.fieldLink RX8 94 "BatchTransferModel" "receiverState" "I", Cond.fieldLink RX8 97 "BatchTransferModel" "receiverMisses" "I", Cond.fieldLink RX8 100 "BatchTransferModel" "expected" "I", Cond.fieldLink RX8 106 "BatchTransferModel" "everRight" "Z", Cond.fieldLink RX8 109 "BatchTransferModel" "rightOfFile" "Z", Cond.fieldLink RX8 103 "BatchTransferModel" "wantsHead" "Z", Cond.methodLink RX8 158 yX8_fileEnds, Cond.instanceMethod yX8_fileEnds, Cond.selects RX8 yX8_fileEnds yX8_fileEnds, Cond.code yX8_fileEnds cX8_fileEnds 2 none, Cond.fieldLink RX8 112 "BatchTransferModel" "gotFiles" "I", Cond.fieldLink RX8 124 "BatchTransferModel" "gotLen" "[I", Cond.fieldLink RX8 127 "BatchTransferModel" "headSize" "I", Cond.methodLink RX8 161 yX8_isRight, Cond.instanceMethod yX8_isRight, Cond.selects RX8 yX8_isRight yX8_isRight, Cond.code yX8_isRight cX8_isRight 4 (some .boolean), Cond.methodLink RX8 165 yX8_receiverMiss, Cond.instanceMethod yX8_receiverMiss]
def wsX8_step_r4 : List Cond := [Cond.selects RX8 yX8_receiverMiss yX8_receiverMiss, Cond.code yX8_receiverMiss cX8_receiverMiss 1 none, Cond.methodLink RX8 168 yX8_head, Cond.instanceMethod yX8_head, Cond.selects RX8 yX8_head yX8_head, Cond.code yX8_head cX8_head 5 none, Cond.fieldLink RX8 118 "BatchTransferModel" "gotNameLen" "[I", Cond.fieldLink RX8 115 "BatchTransferModel" "gotName" "[B", Cond.methodLink RX8 171 yX8_keep, Cond.instanceMethod yX8_keep, Cond.selects RX8 yX8_keep yX8_keep, Cond.code yX8_keep cX8_keep 4 none, Cond.fieldLink RX8 121 "BatchTransferModel" "got" "[B"]
def wsX8_step : List Cond := .code yX8_step cX8_step 3 (some .int) :: ((wsX8_step_r1 ++ (wsX8_step_r2 ++ (wsX8_step_r3 ++ wsX8_step_r4))) ++ wsX80)
def wsX8_line : List Cond := .code yX8_line cX8_line 1 (some .int) :: ([.fieldLink RX8 7 "BatchTransferModel" "thrownCode" "I", .fieldLink RX8 57 "BatchTransferModel" "on" "Z", .fieldLink RX8 70 "BatchTransferModel" "wireLen" "I"] ++ wsX80)
def wsX8_lineAt : List Cond := .code yX8_lineAt cX8_lineAt 2 (some .int) :: ([.fieldLink RX8 7 "BatchTransferModel" "thrownCode" "I", .fieldLink RX8 57 "BatchTransferModel" "on" "Z", .fieldLink RX8 70 "BatchTransferModel" "wireLen" "I", .fieldLink RX8 67 "BatchTransferModel" "wire" "[B"] ++ wsX80)
def wsX8_state : List Cond := .code yX8_state cX8_state 2 (some .int) :: ([.fieldLink RX8 7 "BatchTransferModel" "thrownCode" "I", .fieldLink RX8 61 "BatchTransferModel" "any" "Z", .fieldLink RX8 85 "BatchTransferModel" "senderState" "I", .fieldLink RX8 94 "BatchTransferModel" "receiverState" "I"] ++ wsX80)
def wsX8_received : List Cond := .code yX8_received cX8_received 1 (some .int) :: ([.fieldLink RX8 7 "BatchTransferModel" "thrownCode" "I", .fieldLink RX8 112 "BatchTransferModel" "gotFiles" "I"] ++ wsX80)
def wsX8_size : List Cond := .code yX8_size cX8_size 2 (some .int) :: ([.fieldLink RX8 7 "BatchTransferModel" "thrownCode" "I", .fieldLink RX8 112 "BatchTransferModel" "gotFiles" "I", .fieldLink RX8 124 "BatchTransferModel" "gotLen" "[I"] ++ wsX80)
def wsX8_byteAt : List Cond := .code yX8_byteAt cX8_byteAt 3 (some .int) :: ([.fieldLink RX8 7 "BatchTransferModel" "thrownCode" "I", .fieldLink RX8 112 "BatchTransferModel" "gotFiles" "I", .fieldLink RX8 124 "BatchTransferModel" "gotLen" "[I", .fieldLink RX8 121 "BatchTransferModel" "got" "[B"] ++ wsX80)
def wsX8_nameAt : List Cond := .code yX8_nameAt cX8_nameAt 3 (some .int) :: ([.fieldLink RX8 7 "BatchTransferModel" "thrownCode" "I", .fieldLink RX8 112 "BatchTransferModel" "gotFiles" "I", .fieldLink RX8 118 "BatchTransferModel" "gotNameLen" "[I", .fieldLink RX8 115 "BatchTransferModel" "gotName" "[B"] ++ wsX80)
def wsJ9_min_7cf53 : List Cond := .code yJ9_min_7cf53 cJ9_min_7cf53 2 (some .int) :: ([])
def wsL_lineAt : List Cond := .codeWith yL_lineAt cL_lineAt 4 (some .int) [(0, 9, 12, 13)] :: ([.classLink RL 13 "java/util/NoSuchElementException", .methodLink RL 7 yX7_lineAt, .instanceMethod yX7_lineAt, .selects RX7 yX7_lineAt yX7_lineAt, .initialized RX7, .code yX7_lineAt cX7_lineAt 2 (some .int), .classLink RX7 125 "java/util/NoSuchElementException", .initialized "java/util/NoSuchElementException", .fieldLink RX7 19 "BatchTransfer" "wire" "LBatchTransfer$Wire;", .fieldLink RX7 124 "BatchTransfer$Wire" "length" "I", .methodLink RX7 121 yX6_get, .instanceMethod yX6_get, .selects RX6 yX6_get yX6_get, .initialized RX6, .code yX6_get cX6_get 2 (some .int), .fieldLink RX6 9 "BatchTransfer$Wire" "bytes" "[B"] ++ wsX70 ++ wsX60 ++ (vx_at0 RX7 127 "java/util/NoSuchElementException" ["java/lang/RuntimeException", "java/lang/Exception"]).filter goodWord)
def wsL_byteAt : List Cond := .codeWith yL_byteAt cL_byteAt 5 (some .int) [(0, 10, 13, 13)] :: ([.classLink RL 13 "java/util/NoSuchElementException", .methodLink RL 15 yX7_byteAt, .instanceMethod yX7_byteAt, .selects RX7 yX7_byteAt yX7_byteAt, .initialized RX7, .code yX7_byteAt cX7_byteAt 4 (some .int), .classLink RX7 125 "java/util/NoSuchElementException", .initialized "java/util/NoSuchElementException", .fieldLink RX7 33 "BatchTransfer" "receiver" "LBatchTransfer$Receiver;", .fieldLink RX7 132 "BatchTransfer$Receiver" "arrived" "LBatchTransfer$Shelf;", .fieldLink RX7 139 "BatchTransfer$Shelf" "sizes" "[I", .fieldLink RX7 143 "BatchTransfer$Shelf" "data" "[B", .fieldLink RX7 146 "BatchTransfer$Shelf" "starts" "[I", .methodLink RX7 135 yX2_has, .instanceMethod yX2_has, .selects RX2 yX2_has yX2_has, .initialized RX2, .code yX2_has cX2_has 2 (some .boolean), .fieldLink RX2 28 "BatchTransfer$Shelf" "count" "I"] ++ wsX70 ++ wsX00 ++ wsX20 ++ (vx_at0 RX7 127 "java/util/NoSuchElementException" ["java/lang/RuntimeException", "java/lang/Exception"]).filter goodWord)
def wsL_law0_r1 : List Cond := [Cond.classLink RL 8 RX7, Cond.instantiable RX7 9, Cond.initialized RX7, Cond.classLink RL 20 RX8, Cond.instantiable RX8 39, Cond.initialized RX8, Cond.arrayClass .long, Cond.methodLink RL 19 yX7_init, Cond.instanceMethod yX7_init, Cond.code yX7_init cX7_init 1 none, Cond.methodLink RX7 3 objectInit, Cond.instanceMethod objectInit, Cond.code objectInit ⟨#[0xb1]⟩ 1 none, Cond.classLink RX7 9 RX4, Cond.instantiable RX4 2, Cond.initialized RX4, Cond.fieldLink RX7 12 "BatchTransfer" "tape" "LBatchTransfer$Tape;", Cond.classLink RX7 16 RX6, Cond.instantiable RX6 2, Cond.initialized RX6, Cond.fieldLink RX7 19 "BatchTransfer" "wire" "LBatchTransfer$Wire;", Cond.classLink RX7 23 RX1, Cond.instantiable RX1 10, Cond.initialized RX1]
def wsL_law0_r2 : List Cond := [Cond.fieldLink RX7 26 "BatchTransfer" "sender" "LBatchTransfer$Sender;", Cond.classLink RX7 30 RX0, Cond.instantiable RX0 9, Cond.initialized RX0, Cond.fieldLink RX7 33 "BatchTransfer" "receiver" "LBatchTransfer$Receiver;", Cond.instanceMethod yX4_init, Cond.code yX4_init cX4_init 1 none, Cond.methodLink RX4 3 objectInit, Cond.arrayClass .byte, Cond.fieldLink RX4 9 "BatchTransfer$Tape" "bytes" "[B", Cond.instanceMethod yX6_init, Cond.code yX6_init cX6_init 1 none, Cond.methodLink RX6 3 objectInit, Cond.fieldLink RX6 9 "BatchTransfer$Wire" "bytes" "[B", Cond.instanceMethod yX1_init, Cond.code yX1_init cX1_init 1 none, Cond.classLink RX1 9 RX2, Cond.instantiable RX2 6, Cond.initialized RX2, Cond.fieldLink RX1 14 "BatchTransfer$Sender" "files" "LBatchTransfer$Shelf;", Cond.fieldLink RX1 20 "BatchTransfer$Unit" "HEAD" "LBatchTransfer$Unit;", Cond.fieldLink RX1 26 "BatchTransfer$Sender" "unit" "LBatchTransfer$Unit;", Cond.instanceMethod yX3_init, Cond.initialized RX3]
def wsL_law0_r3 : List Cond := [Cond.code yX3_init cX3_init 1 none, Cond.methodLink RX3 3 objectInit, Cond.methodLink RX1 11 yX2_init, Cond.instanceMethod yX2_init, Cond.code yX2_init cX2_init 2 none, Cond.methodLink RX2 3 objectInit, Cond.fieldLink RX2 9 "BatchTransfer$Shelf" "names" "[B", Cond.arrayClass .int, Cond.fieldLink RX2 15 "BatchTransfer$Shelf" "nameLengths" "[I", Cond.fieldLink RX2 19 "BatchTransfer$Shelf" "starts" "[I", Cond.fieldLink RX2 22 "BatchTransfer$Shelf" "sizes" "[I", Cond.fieldLink RX2 25 "BatchTransfer$Shelf" "data" "[B", Cond.instanceMethod yX0_init, Cond.code yX0_init cX0_init 1 none, Cond.classLink RX0 9 RX2, Cond.fieldLink RX0 14 "BatchTransfer$Receiver" "arrived" "LBatchTransfer$Shelf;", Cond.methodLink RX0 11 yX2_init, Cond.methodLink RL 22 yX8_init, Cond.instanceMethod yX8_init, Cond.code yX8_init cX8_init 4 none, Cond.methodLink RX8 1 objectInit, Cond.fieldLink RX8 7 "BatchTransferModel" "thrownCode" "I", Cond.fieldLink RX8 13 "BatchTransferModel" "nibbles" "[I", Cond.fieldLink RX8 17 "BatchTransferModel" "tape" "[B"]
def wsL_law0_r4 : List Cond := [Cond.fieldLink RX8 21 "BatchTransferModel" "tapeLen" "I", Cond.fieldLink RX8 24 "BatchTransferModel" "files" "I", Cond.fieldLink RX8 27 "BatchTransferModel" "name" "[B", Cond.fieldLink RX8 30 "BatchTransferModel" "nameLen" "[I", Cond.fieldLink RX8 33 "BatchTransferModel" "data" "[B", Cond.fieldLink RX8 36 "BatchTransferModel" "dataLen" "[I", Cond.fieldLink RX8 39 "BatchTransferModel" "units" "I", Cond.fieldLink RX8 42 "BatchTransferModel" "uKind" "[I", Cond.fieldLink RX8 45 "BatchTransferModel" "uFile" "[I", Cond.fieldLink RX8 48 "BatchTransferModel" "uFrom" "[I", Cond.fieldLink RX8 51 "BatchTransferModel" "uSize" "[I", Cond.fieldLink RX8 54 "BatchTransferModel" "uNumber" "[I", Cond.fieldLink RX8 57 "BatchTransferModel" "on" "Z", Cond.fieldLink RX8 61 "BatchTransferModel" "any" "Z", Cond.fieldLink RX8 64 "BatchTransferModel" "mode" "I", Cond.fieldLink RX8 67 "BatchTransferModel" "wire" "[B", Cond.fieldLink RX8 70 "BatchTransferModel" "wireLen" "I", Cond.fieldLink RX8 73 "BatchTransferModel" "toSender" "Z", Cond.fieldLink RX8 76 "BatchTransferModel" "told" "Z", Cond.fieldLink RX8 79 "BatchTransferModel" "toldAt" "I", Cond.fieldLink RX8 82 "BatchTransferModel" "toldMask" "I", Cond.fieldLink RX8 85 "BatchTransferModel" "senderState" "I", Cond.fieldLink RX8 88 "BatchTransferModel" "senderMisses" "I", Cond.fieldLink RX8 91 "BatchTransferModel" "unit" "I"]
def wsL_law0_r5 : List Cond := [Cond.fieldLink RX8 94 "BatchTransferModel" "receiverState" "I", Cond.fieldLink RX8 97 "BatchTransferModel" "receiverMisses" "I", Cond.fieldLink RX8 100 "BatchTransferModel" "expected" "I", Cond.fieldLink RX8 103 "BatchTransferModel" "wantsHead" "Z", Cond.fieldLink RX8 106 "BatchTransferModel" "everRight" "Z", Cond.fieldLink RX8 109 "BatchTransferModel" "rightOfFile" "Z", Cond.fieldLink RX8 112 "BatchTransferModel" "gotFiles" "I", Cond.fieldLink RX8 115 "BatchTransferModel" "gotName" "[B", Cond.fieldLink RX8 118 "BatchTransferModel" "gotNameLen" "[I", Cond.fieldLink RX8 121 "BatchTransferModel" "got" "[B", Cond.fieldLink RX8 124 "BatchTransferModel" "gotLen" "[I", Cond.fieldLink RX8 127 "BatchTransferModel" "headSize" "I", Cond.constant RX8 130 (32768), Cond.constant RX8 131 (65535), Cond.methodLink RL 23 yX7_feed, Cond.instanceMethod yX7_feed, Cond.selects RX7 yX7_feed yX7_feed, Cond.code yX7_feed cX7_feed 6 (some .boolean), Cond.fieldLink RX7 37 "BatchTransfer$Tape" "length" "I", Cond.methodLink RX7 41 yX4_append, Cond.instanceMethod yX4_append, Cond.selects RX4 yX4_append yX4_append, Cond.code yX4_append cX4_append 3 none, Cond.fieldLink RX4 15 "BatchTransfer$Tape" "length" "I"]
def wsL_law0_r6 : List Cond := [Cond.methodLink RL 27 yX8_feed, Cond.instanceMethod yX8_feed, Cond.selects RX8 yX8_feed yX8_feed, Cond.code yX8_feed cX8_feed 8 (some .boolean), Cond.methodLink RL 28 yX7_end, Cond.instanceMethod yX7_end, Cond.selects RX7 yX7_end yX7_end, Cond.code yX7_end cX7_end 2 (some .boolean), Cond.methodLink RL 32 yX8_end, Cond.instanceMethod yX8_end, Cond.selects RX8 yX8_end yX8_end, Cond.code yX8_end cX8_end 2 (some .boolean), Cond.methodLink RL 33 yX7_file, Cond.instanceMethod yX7_file, Cond.selects RX7 yX7_file yX7_file, Cond.code yX7_file cX7_file 5 (some .int), Cond.fieldLink RX7 53 "BatchTransfer$Sender" "files" "LBatchTransfer$Shelf;", Cond.fieldLink RX7 62 "BatchTransfer$Tape" "bytes" "[B", Cond.fieldLink RX7 73 "BatchTransfer$Shelf" "count" "I", Cond.methodLink RX7 45 yX4_nameLength, Cond.instanceMethod yX4_nameLength, Cond.selects RX4 yX4_nameLength yX4_nameLength, Cond.code yX4_nameLength cX4_nameLength 2 (some .int), Cond.methodLink RX7 49 yX7_mayAddFile]
def wsL_law0_r7 : List Cond := [Cond.instanceMethod yX7_mayAddFile, Cond.selects RX7 yX7_mayAddFile yX7_mayAddFile, Cond.code yX7_mayAddFile cX7_mayAddFile 1 (some .boolean), Cond.methodLink RX7 83 yX7_isOn, Cond.instanceMethod yX7_isOn, Cond.selects RX7 yX7_isOn yX7_isOn, Cond.code yX7_isOn cX7_isOn 1 (some .boolean), Cond.fieldLink RX7 124 "BatchTransfer$Wire" "length" "I", Cond.methodLink RX7 57 yX2_open, Cond.instanceMethod yX2_open, Cond.selects RX2 yX2_open yX2_open, Cond.code yX2_open cX2_open 1 none, Cond.fieldLink RX2 28 "BatchTransfer$Shelf" "count" "I", Cond.methodLink RX7 66 yX2_nameLast, Cond.instanceMethod yX2_nameLast, Cond.selects RX2 yX2_nameLast yX2_nameLast, Cond.code yX2_nameLast cX2_nameLast 5 none, Cond.methodLink RX2 32 arraycopyName, Cond.native arraycopyName, Cond.static arraycopyName, Cond.initialized "java/lang/System", Cond.methodLink RX7 70 yX2_extendLast, Cond.instanceMethod yX2_extendLast, Cond.selects RX2 yX2_extendLast yX2_extendLast]
def wsL_law0_r8 : List Cond := [Cond.code yX2_extendLast cX2_extendLast 5 none, Cond.methodLink RL 37 yX8_file, Cond.instanceMethod yX8_file, Cond.selects RX8 yX8_file yX8_file, Cond.code yX8_file cX8_file 4 (some .int), Cond.methodLink RL 38 yX7_made, Cond.instanceMethod yX7_made, Cond.selects RX7 yX7_made yX7_made, Cond.code yX7_made cX7_made 5 (some .int), Cond.methodLink RX7 76 yX2_nameLastByLetter, Cond.instanceMethod yX2_nameLastByLetter, Cond.selects RX2 yX2_nameLastByLetter yX2_nameLastByLetter, Cond.code yX2_nameLastByLetter cX2_nameLastByLetter 3 none, Cond.methodLink RX7 80 yX2_extendLastByOne, Cond.instanceMethod yX2_extendLastByOne, Cond.selects RX2 yX2_extendLastByOne yX2_extendLastByOne, Cond.code yX2_extendLastByOne cX2_extendLastByOne 3 none, Cond.methodLink RL 41 yX8_made, Cond.instanceMethod yX8_made, Cond.selects RX8 yX8_made yX8_made, Cond.code yX8_made cX8_made 4 (some .int), Cond.methodLink RL 42 yX7_clear, Cond.instanceMethod yX7_clear, Cond.selects RX7 yX7_clear yX7_clear]
def wsL_law0_r9 : List Cond := [Cond.code yX7_clear cX7_clear 1 (some .boolean), Cond.methodLink RL 46 yX8_clear, Cond.instanceMethod yX8_clear, Cond.selects RX8 yX8_clear yX8_clear, Cond.code yX8_clear cX8_clear 1 (some .boolean), Cond.methodLink RL 47 yX7_begin, Cond.instanceMethod yX7_begin, Cond.selects RX7 yX7_begin yX7_begin, Cond.code yX7_begin cX7_begin 2 (some .boolean), Cond.fieldLink RX7 97 "BatchTransfer" "senderIsNext" "Z", Cond.fieldLink RX7 101 "BatchTransfer" "everBegun" "Z", Cond.methodLink RX7 86 yX1_prepare, Cond.instanceMethod yX1_prepare, Cond.selects RX1 yX1_prepare yX1_prepare, Cond.code yX1_prepare cX1_prepare 2 none, Cond.fieldLink RX1 32 "BatchTransfer$Sender" "asked" "Z", Cond.fieldLink RX1 36 "BatchTransfer$Sender" "current" "I", Cond.methodLink RX1 29 ⟨"BatchTransfer$Sender", "startWork", "(I)V"⟩, Cond.sameMethod "BatchTransfer$Sender" "BatchTransfer$Side" "startWork" "(I)V", Cond.selects RX1 ⟨"BatchTransfer$Sender", "startWork", "(I)V"⟩ yX3_startWork, Cond.instanceMethod yX3_startWork, Cond.code yX3_startWork cX3_startWork 2 none, Cond.fieldLink RX3 28 "BatchTransfer$Side" "mode" "I", Cond.fieldLink RX3 9 "BatchTransfer$Side" "outcome" "I"]
def wsL_law0_r10 : List Cond := [Cond.fieldLink RX3 31 "BatchTransfer$Side" "misses" "I", Cond.methodLink RX1 40 yX1_goIntoFile, Cond.instanceMethod yX1_goIntoFile, Cond.selects RX1 yX1_goIntoFile yX1_goIntoFile, Cond.code yX1_goIntoFile cX1_goIntoFile 1 none, Cond.fieldLink RX1 85 "BatchTransfer$Sender" "outcome" "I", Cond.sameField "BatchTransfer$Sender" "BatchTransfer$Side" "outcome" "I", Cond.fieldLink RX1 88 "BatchTransfer$Sender" "number" "I", Cond.fieldLink RX1 91 "BatchTransfer$Shelf" "starts" "[I", Cond.fieldLink RX1 95 "BatchTransfer$Sender" "offset" "I", Cond.fieldLink RX1 98 "BatchTransfer$Shelf" "sizes" "[I", Cond.fieldLink RX1 101 "BatchTransfer$Sender" "left" "I", Cond.fieldLink RX1 73 "BatchTransfer$Unit" "BLOCK" "LBatchTransfer$Unit;", Cond.fieldLink RX1 104 "BatchTransfer$Unit" "END" "LBatchTransfer$Unit;", Cond.methodLink RX1 82 yX2_has, Cond.instanceMethod yX2_has, Cond.selects RX2 yX2_has yX2_has, Cond.code yX2_has cX2_has 2 (some .boolean), Cond.methodLink RX7 89 yX0_prepare, Cond.instanceMethod yX0_prepare, Cond.selects RX0 yX0_prepare yX0_prepare, Cond.code yX0_prepare cX0_prepare 2 none, Cond.fieldLink RX0 23 "BatchTransfer$Shelf" "count" "I", Cond.fieldLink RX0 27 "BatchTransfer$Receiver" "anyWasRight" "Z"]
def wsL_law0_r11 : List Cond := [Cond.fieldLink RX0 31 "BatchTransfer$Receiver" "anyOfFileWasRight" "Z", Cond.methodLink RX0 20 ⟨"BatchTransfer$Receiver", "startWork", "(I)V"⟩, Cond.sameMethod "BatchTransfer$Receiver" "BatchTransfer$Side" "startWork" "(I)V", Cond.selects RX0 ⟨"BatchTransfer$Receiver", "startWork", "(I)V"⟩ yX3_startWork, Cond.methodLink RX0 34 yX0_expectHead, Cond.instanceMethod yX0_expectHead, Cond.selects RX0 yX0_expectHead yX0_expectHead, Cond.code yX0_expectHead cX0_expectHead 1 none, Cond.fieldLink RX0 76 "BatchTransfer$Receiver" "expected" "I", Cond.fieldLink RX0 79 "BatchTransfer$Receiver" "headExpected" "Z", Cond.methodLink RX0 37 yX2_open, Cond.methodLink RX0 40 yX0_expectBlocks, Cond.instanceMethod yX0_expectBlocks, Cond.selects RX0 yX0_expectBlocks yX0_expectBlocks, Cond.code yX0_expectBlocks cX0_expectBlocks 1 none, Cond.methodLink RX7 90 yX7_askOf, Cond.static yX7_askOf, Cond.code yX7_askOf cX7_askOf 1 (some .int), Cond.methodLink RX7 94 yX6_putByte, Cond.instanceMethod yX6_putByte, Cond.selects RX6 yX6_putByte yX6_putByte, Cond.code yX6_putByte cX6_putByte 2 none, Cond.fieldLink RX6 15 "BatchTransfer$Wire" "length" "I", Cond.methodLink RL 50 yX8_begin]
def wsL_law0_r12 : List Cond := [Cond.instanceMethod yX8_begin, Cond.selects RX8 yX8_begin yX8_begin, Cond.code yX8_begin cX8_begin 2 (some .boolean), Cond.methodLink RX8 144 yX8_layOut, Cond.instanceMethod yX8_layOut, Cond.selects RX8 yX8_layOut yX8_layOut, Cond.code yX8_layOut cX8_layOut 6 none, Cond.methodLink RX8 132 yX8_unitOf, Cond.instanceMethod yX8_unitOf, Cond.selects RX8 yX8_unitOf yX8_unitOf, Cond.code yX8_unitOf cX8_unitOf 6 none, Cond.methodLink RX8 147 yX8_ask, Cond.instanceMethod yX8_ask, Cond.selects RX8 yX8_ask yX8_ask, Cond.code yX8_ask cX8_ask 1 (some .int), Cond.methodLink RX8 136 yX8_byteOn, Cond.instanceMethod yX8_byteOn, Cond.selects RX8 yX8_byteOn yX8_byteOn, Cond.code yX8_byteOn cX8_byteOn 2 none, Cond.methodLink RL 51 yX7_spoil, Cond.instanceMethod yX7_spoil, Cond.selects RX7 yX7_spoil yX7_spoil, Cond.code yX7_spoil cX7_spoil 3 none, Cond.fieldLink RX7 104 "BatchTransfer" "spoilTold" "Z"]
def wsL_law0_r13 : List Cond := [Cond.fieldLink RX7 107 "BatchTransfer" "spoilAt" "I", Cond.fieldLink RX7 110 "BatchTransfer" "spoilMask" "I", Cond.methodLink RL 55 yX8_spoil, Cond.instanceMethod yX8_spoil, Cond.selects RX8 yX8_spoil yX8_spoil, Cond.code yX8_spoil cX8_spoil 3 none, Cond.methodLink RL 56 yX7_step, Cond.instanceMethod yX7_step, Cond.selects RX7 yX7_step yX7_step, Cond.code yX7_step cX7_step 1 (some .int), Cond.methodLink RX7 113 yX7_spoilWire, Cond.instanceMethod yX7_spoilWire, Cond.selects RX7 yX7_spoilWire yX7_spoilWire, Cond.code yX7_spoilWire cX7_spoilWire 1 none, Cond.methodLink RX7 155 yX6_empty, Cond.instanceMethod yX6_empty, Cond.selects RX6 yX6_empty yX6_empty, Cond.code yX6_empty cX6_empty 1 none, Cond.methodLink RX7 158 yX6_damage, Cond.instanceMethod yX6_damage, Cond.selects RX6 yX6_damage yX6_damage, Cond.code yX6_damage cX6_damage 3 none, Cond.methodLink RX6 23 yJ9_floorMod_7cf53, Cond.static yJ9_floorMod_7cf53]
def wsL_law0_r14 : List Cond := [Cond.initialized RJ9, Cond.code yJ9_floorMod_7cf53 cJ9_floorMod_7cf53 3 (some .int), Cond.methodLink RX7 116 ⟨"BatchTransfer$Sender", "hear", "(LBatchTransfer$Wire;)V"⟩, Cond.sameMethod "BatchTransfer$Sender" "BatchTransfer$Side" "hear" "(LBatchTransfer$Wire;)V", Cond.selects RX1 ⟨"BatchTransfer$Sender", "hear", "(LBatchTransfer$Wire;)V"⟩ yX3_hear, Cond.instanceMethod yX3_hear, Cond.code yX3_hear cX3_hear 2 none, Cond.methodLink RX3 15 yX6_empty, Cond.methodLink RX3 20 yX6_isByte, Cond.instanceMethod yX6_isByte, Cond.selects RX6 yX6_isByte yX6_isByte, Cond.code yX6_isByte cX6_isByte 2 (some .boolean), Cond.methodLink RX6 19 yX6_get, Cond.instanceMethod yX6_get, Cond.selects RX6 yX6_get yX6_get, Cond.code yX6_get cX6_get 2 (some .int), Cond.methodLink RX3 24 ⟨"BatchTransfer$Side", "answer", "(LBatchTransfer$Wire;)V"⟩, Cond.sameMethod "BatchTransfer$Side" "BatchTransfer$Side" "answer" "(LBatchTransfer$Wire;)V", Cond.selects RX0 ⟨"BatchTransfer$Side", "answer", "(LBatchTransfer$Wire;)V"⟩ yX0_answer, Cond.instanceMethod yX0_answer, Cond.code yX0_answer cX0_answer 2 none, Cond.fieldLink RX0 43 "BatchTransfer$Receiver" "mode" "I", Cond.sameField "BatchTransfer$Receiver" "BatchTransfer$Side" "mode" "I", Cond.methodLink RX0 46 yX6_isRightBlock]
def wsL_law0_r15 : List Cond := [Cond.instanceMethod yX6_isRightBlock, Cond.selects RX6 yX6_isRightBlock yX6_isRightBlock, Cond.code yX6_isRightBlock cX6_isRightBlock 4 (some .boolean), Cond.methodLink RX6 35 yX6_dataLength, Cond.instanceMethod yX6_dataLength, Cond.selects RX6 yX6_dataLength yX6_dataLength, Cond.code yX6_dataLength cX6_dataLength 1 (some .int), Cond.methodLink RX6 29 yX6_sum, Cond.instanceMethod yX6_sum, Cond.selects RX6 yX6_sum yX6_sum, Cond.code yX6_sum cX6_sum 4 (some .int), Cond.methodLink RX6 32 yX6_crc, Cond.instanceMethod yX6_crc, Cond.selects RX6 yX6_crc yX6_crc, Cond.code yX6_crc cX6_crc 5 (some .int), Cond.constant RX6 39 (65535), Cond.methodLink RX0 52 yX0_answerBlock, Cond.instanceMethod yX0_answerBlock, Cond.selects RX0 yX0_answerBlock yX0_answerBlock, Cond.code yX0_answerBlock cX0_answerBlock 3 none, Cond.methodLink RX0 73 yX6_get, Cond.methodLink RX0 82 yX0_takeHead, Cond.instanceMethod yX0_takeHead, Cond.selects RX0 yX0_takeHead yX0_takeHead]
def wsL_law0_r16 : List Cond := [Cond.code yX0_takeHead cX0_takeHead 3 none, Cond.fieldLink RX0 104 "BatchTransfer$Receiver" "outcome" "I", Cond.sameField "BatchTransfer$Receiver" "BatchTransfer$Side" "outcome" "I", Cond.fieldLink RX0 107 "BatchTransfer$Wire" "bytes" "[B", Cond.fieldLink RX0 119 "BatchTransfer$Receiver" "sizeTold" "I", Cond.methodLink RX0 100 yX0_nameLengthIn, Cond.static yX0_nameLengthIn, Cond.code yX0_nameLengthIn cX0_nameLengthIn 2 (some .int), Cond.methodLink RX0 111 yX2_nameLast, Cond.methodLink RX0 115 yX0_numberIn, Cond.static yX0_numberIn, Cond.code yX0_numberIn cX0_numberIn 5 (some .int), Cond.methodLink RX0 85 yX0_takeData, Cond.instanceMethod yX0_takeData, Cond.selects RX0 yX0_takeData yX0_takeData, Cond.code yX0_takeData cX0_takeData 2 none, Cond.methodLink RX0 122 yX6_dataLength, Cond.methodLink RX0 126 yX2_extendLast, Cond.methodLink RX0 88 yX0_acknowledge, Cond.instanceMethod yX0_acknowledge, Cond.selects RX0 yX0_acknowledge yX0_acknowledge, Cond.code yX0_acknowledge cX0_acknowledge 2 none, Cond.fieldLink RX0 97 "BatchTransfer$Receiver" "misses" "I", Cond.sameField "BatchTransfer$Receiver" "BatchTransfer$Side" "misses" "I"]
def wsL_law0_r17 : List Cond := [Cond.methodLink RX0 70 yX6_putByte, Cond.methodLink RX0 91 ⟨"BatchTransfer$Receiver", "giveUp", "(LBatchTransfer$Wire;)V"⟩, Cond.sameMethod "BatchTransfer$Receiver" "BatchTransfer$Side" "giveUp" "(LBatchTransfer$Wire;)V", Cond.selects RX0 ⟨"BatchTransfer$Receiver", "giveUp", "(LBatchTransfer$Wire;)V"⟩ yX3_giveUp, Cond.instanceMethod yX3_giveUp, Cond.code yX3_giveUp cX3_giveUp 2 none, Cond.methodLink RX3 37 yX6_putByte, Cond.methodLink RX0 56 yX6_isByte, Cond.methodLink RX0 59 yX0_answerEnd, Cond.instanceMethod yX0_answerEnd, Cond.selects RX0 yX0_answerEnd yX0_answerEnd, Cond.code yX0_answerEnd cX0_answerEnd 2 none, Cond.methodLink RX0 94 yX0_closeFile, Cond.instanceMethod yX0_closeFile, Cond.selects RX0 yX0_closeFile yX0_closeFile, Cond.code yX0_closeFile cX0_closeFile 1 none, Cond.methodLink RX0 129 yX2_cutLast, Cond.instanceMethod yX2_cutLast, Cond.selects RX2 yX2_cutLast yX2_cutLast, Cond.code yX2_cutLast cX2_cutLast 3 none, Cond.methodLink RX0 62 ⟨"BatchTransfer$Receiver", "bearsMiss", "(LBatchTransfer$Wire;)Z"⟩, Cond.sameMethod "BatchTransfer$Receiver" "BatchTransfer$Side" "bearsMiss" "(LBatchTransfer$Wire;)Z", Cond.selects RX0 ⟨"BatchTransfer$Receiver", "bearsMiss", "(LBatchTransfer$Wire;)Z"⟩ yX3_bearsMiss, Cond.instanceMethod yX3_bearsMiss]
def wsL_law0_r18 : List Cond := [Cond.code yX3_bearsMiss cX3_bearsMiss 2 (some .boolean), Cond.methodLink RX3 34 ⟨"BatchTransfer$Side", "giveUp", "(LBatchTransfer$Wire;)V"⟩, Cond.sameMethod "BatchTransfer$Side" "BatchTransfer$Side" "giveUp" "(LBatchTransfer$Wire;)V", Cond.selects RX0 ⟨"BatchTransfer$Side", "giveUp", "(LBatchTransfer$Wire;)V"⟩ yX3_giveUp, Cond.selects RX1 ⟨"BatchTransfer$Side", "giveUp", "(LBatchTransfer$Wire;)V"⟩ yX3_giveUp, Cond.selects RX1 ⟨"BatchTransfer$Side", "answer", "(LBatchTransfer$Wire;)V"⟩ yX1_answer, Cond.instanceMethod yX1_answer, Cond.code yX1_answer cX1_answer 2 none, Cond.fieldLink RX1 43 "BatchTransfer$Sender" "mode" "I", Cond.sameField "BatchTransfer$Sender" "BatchTransfer$Side" "mode" "I", Cond.fieldLink RX1 60 "BatchTransfer$Sender" "misses" "I", Cond.sameField "BatchTransfer$Sender" "BatchTransfer$Side" "misses" "I", Cond.methodLink RX1 50 yX6_isByte, Cond.methodLink RX1 56 yX1_putUnit, Cond.instanceMethod yX1_putUnit, Cond.selects RX1 yX1_putUnit yX1_putUnit, Cond.code yX1_putUnit cX1_putUnit 2 none, Cond.methodLink RX1 117 yX6_empty, Cond.methodLink RX1 120 yX1_putHead, Cond.instanceMethod yX1_putHead, Cond.selects RX1 yX1_putHead yX1_putHead, Cond.code yX1_putHead cX1_putHead 3 none, Cond.fieldLink RX1 130 "BatchTransfer$Shelf" "nameLengths" "[I", Cond.fieldLink RX1 133 "BatchTransfer$Shelf" "names" "[B"]
def wsL_law0_r19 : List Cond := [Cond.fieldLink RX1 137 "BatchTransfer$Wire" "bytes" "[B", Cond.methodLink RX1 140 arraycopyName, Cond.methodLink RX1 126 yX6_openBlock, Cond.instanceMethod yX6_openBlock, Cond.selects RX6 yX6_openBlock yX6_openBlock, Cond.code yX6_openBlock cX6_openBlock 5 none, Cond.methodLink RX1 146 yX1_putDigits, Cond.static yX1_putDigits, Cond.code yX1_putDigits cX1_putDigits 5 none, Cond.methodLink RX1 150 yX6_sealBlock, Cond.instanceMethod yX6_sealBlock, Cond.selects RX6 yX6_sealBlock yX6_sealBlock, Cond.code yX6_sealBlock cX6_sealBlock 3 none, Cond.methodLink RX1 123 yX1_putBlock, Cond.instanceMethod yX1_putBlock, Cond.selects RX1 yX1_putBlock yX1_putBlock, Cond.code yX1_putBlock cX1_putBlock 3 none, Cond.fieldLink RX1 153 "BatchTransfer$Shelf" "data" "[B", Cond.methodLink RX1 111 Lib.Math.min.name, Cond.static Lib.Math.min.name, Cond.initialized "java/lang/Math", Cond.code Lib.Math.min.name Lib.Math.min.code 2 (some .int), Cond.methodLink RX1 107 yX1_blockLength, Cond.instanceMethod yX1_blockLength]
def wsL_law0_r20 : List Cond := [Cond.selects RX1 yX1_blockLength yX1_blockLength, Cond.code yX1_blockLength cX1_blockLength 1 (some .int), Cond.methodLink RX1 70 yX6_putByte, Cond.methodLink RX1 63 yX1_goToNextUnit, Cond.instanceMethod yX1_goToNextUnit, Cond.selects RX1 yX1_goToNextUnit yX1_goToNextUnit, Cond.code yX1_goToNextUnit cX1_goToNextUnit 1 none, Cond.methodLink RX1 76 yX1_goBehindBlock, Cond.instanceMethod yX1_goBehindBlock, Cond.selects RX1 yX1_goBehindBlock yX1_goBehindBlock, Cond.code yX1_goBehindBlock cX1_goBehindBlock 2 none, Cond.methodLink RX1 79 yX1_goBehindFile, Cond.instanceMethod yX1_goBehindFile, Cond.selects RX1 yX1_goBehindFile yX1_goBehindFile, Cond.code yX1_goBehindFile cX1_goBehindFile 1 none, Cond.methodLink RX1 66 ⟨"BatchTransfer$Sender", "bearsMiss", "(LBatchTransfer$Wire;)Z"⟩, Cond.sameMethod "BatchTransfer$Sender" "BatchTransfer$Side" "bearsMiss" "(LBatchTransfer$Wire;)Z", Cond.selects RX1 ⟨"BatchTransfer$Sender", "bearsMiss", "(LBatchTransfer$Wire;)Z"⟩ yX3_bearsMiss, Cond.methodLink RX7 120 ⟨"BatchTransfer$Receiver", "hear", "(LBatchTransfer$Wire;)V"⟩, Cond.sameMethod "BatchTransfer$Receiver" "BatchTransfer$Side" "hear" "(LBatchTransfer$Wire;)V", Cond.selects RX0 ⟨"BatchTransfer$Receiver", "hear", "(LBatchTransfer$Wire;)V"⟩ yX3_hear, Cond.methodLink RX7 121 yX6_get, Cond.methodLink RL 59 yX8_step, Cond.instanceMethod yX8_step]
def wsL_law0_r21 : List Cond := [Cond.selects RX8 yX8_step yX8_step, Cond.code yX8_step cX8_step 3 (some .int), Cond.methodLink RX8 174 yX8_senderGets, Cond.instanceMethod yX8_senderGets, Cond.selects RX8 yX8_senderGets yX8_senderGets, Cond.code yX8_senderGets cX8_senderGets 4 none, Cond.methodLink RX8 154 yX8_senderMiss, Cond.instanceMethod yX8_senderMiss, Cond.selects RX8 yX8_senderMiss yX8_senderMiss, Cond.code yX8_senderMiss cX8_senderMiss 2 none, Cond.methodLink RX8 151 yX8_sendUnit, Cond.instanceMethod yX8_sendUnit, Cond.selects RX8 yX8_sendUnit yX8_sendUnit, Cond.code yX8_sendUnit cX8_sendUnit 8 none, Cond.methodLink RX8 140 yX8_check, Cond.instanceMethod yX8_check, Cond.selects RX8 yX8_check yX8_check, Cond.code yX8_check cX8_check 6 (some .int), Cond.methodLink RX8 177 yX8_receiverGets, Cond.instanceMethod yX8_receiverGets, Cond.selects RX8 yX8_receiverGets yX8_receiverGets, Cond.code yX8_receiverGets cX8_receiverGets 3 none, Cond.methodLink RX8 158 yX8_fileEnds, Cond.instanceMethod yX8_fileEnds]
def wsL_law0_r22 : List Cond := [Cond.selects RX8 yX8_fileEnds yX8_fileEnds, Cond.code yX8_fileEnds cX8_fileEnds 2 none, Cond.methodLink RX8 161 yX8_isRight, Cond.instanceMethod yX8_isRight, Cond.selects RX8 yX8_isRight yX8_isRight, Cond.code yX8_isRight cX8_isRight 4 (some .boolean), Cond.methodLink RX8 165 yX8_receiverMiss, Cond.instanceMethod yX8_receiverMiss, Cond.selects RX8 yX8_receiverMiss yX8_receiverMiss, Cond.code yX8_receiverMiss cX8_receiverMiss 1 none, Cond.methodLink RX8 168 yX8_head, Cond.instanceMethod yX8_head, Cond.selects RX8 yX8_head yX8_head, Cond.code yX8_head cX8_head 5 none, Cond.methodLink RX8 171 yX8_keep, Cond.instanceMethod yX8_keep, Cond.selects RX8 yX8_keep yX8_keep, Cond.code yX8_keep cX8_keep 4 none, Cond.methodLink RL 60 yX7_line, Cond.instanceMethod yX7_line, Cond.selects RX7 yX7_line yX7_line, Cond.code yX7_line cX7_line 1 (some .int), Cond.methodLink RL 63 yX8_line, Cond.instanceMethod yX8_line]
def wsL_law0_r23 : List Cond := [Cond.selects RX8 yX8_line yX8_line, Cond.code yX8_line cX8_line 1 (some .int), Cond.methodLink RL 64 yL_lineAt, Cond.static yL_lineAt, Cond.initialized RL, Cond.codeWith yL_lineAt cL_lineAt 4 (some .int) [(0, 9, 12, 13)], Cond.classLink RL 13 "java/util/NoSuchElementException", Cond.methodLink RL 7 yX7_lineAt, Cond.instanceMethod yX7_lineAt, Cond.selects RX7 yX7_lineAt yX7_lineAt, Cond.code yX7_lineAt cX7_lineAt 2 (some .int), Cond.classLink RX7 125 "java/util/NoSuchElementException", Cond.initialized "java/util/NoSuchElementException", Cond.methodLink RL 69 yX8_lineAt, Cond.instanceMethod yX8_lineAt, Cond.selects RX8 yX8_lineAt yX8_lineAt, Cond.code yX8_lineAt cX8_lineAt 2 (some .int), Cond.methodLink RL 70 yX8_thrown, Cond.instanceMethod yX8_thrown, Cond.selects RX8 yX8_thrown yX8_thrown, Cond.code yX8_thrown cX8_thrown 1 (some .int), Cond.methodLink RL 73 yX7_state, Cond.instanceMethod yX7_state, Cond.selects RX7 yX7_state yX7_state]
def wsL_law0_r24 : List Cond := [Cond.code yX7_state cX7_state 2 (some .int), Cond.fieldLink RX7 128 "BatchTransfer$Sender" "outcome" "I", Cond.fieldLink RX7 131 "BatchTransfer$Receiver" "outcome" "I", Cond.methodLink RL 76 yX8_state, Cond.instanceMethod yX8_state, Cond.selects RX8 yX8_state yX8_state, Cond.code yX8_state cX8_state 2 (some .int), Cond.methodLink RL 77 yX7_received, Cond.instanceMethod yX7_received, Cond.selects RX7 yX7_received yX7_received, Cond.code yX7_received cX7_received 1 (some .int), Cond.fieldLink RX7 132 "BatchTransfer$Receiver" "arrived" "LBatchTransfer$Shelf;", Cond.methodLink RL 80 yX8_received, Cond.instanceMethod yX8_received, Cond.selects RX8 yX8_received yX8_received, Cond.code yX8_received cX8_received 1 (some .int), Cond.methodLink RL 81 yX7_size, Cond.instanceMethod yX7_size, Cond.selects RX7 yX7_size yX7_size, Cond.code yX7_size cX7_size 2 (some .int), Cond.fieldLink RX7 139 "BatchTransfer$Shelf" "sizes" "[I", Cond.methodLink RX7 135 yX2_has, Cond.methodLink RL 84 yX8_size, Cond.instanceMethod yX8_size]
def wsL_law0_r25 : List Cond := [Cond.selects RX8 yX8_size yX8_size, Cond.code yX8_size cX8_size 2 (some .int), Cond.methodLink RL 85 yL_byteAt, Cond.static yL_byteAt, Cond.codeWith yL_byteAt cL_byteAt 5 (some .int) [(0, 10, 13, 13)], Cond.methodLink RL 15 yX7_byteAt, Cond.instanceMethod yX7_byteAt, Cond.selects RX7 yX7_byteAt yX7_byteAt, Cond.code yX7_byteAt cX7_byteAt 4 (some .int), Cond.fieldLink RX7 143 "BatchTransfer$Shelf" "data" "[B", Cond.fieldLink RX7 146 "BatchTransfer$Shelf" "starts" "[I", Cond.methodLink RL 88 yX8_byteAt, Cond.instanceMethod yX8_byteAt, Cond.selects RX8 yX8_byteAt yX8_byteAt, Cond.code yX8_byteAt cX8_byteAt 3 (some .int), Cond.methodLink RL 89 yX7_nameAt, Cond.instanceMethod yX7_nameAt, Cond.selects RX7 yX7_nameAt yX7_nameAt, Cond.code yX7_nameAt cX7_nameAt 4 (some .int), Cond.fieldLink RX7 149 "BatchTransfer$Shelf" "nameLengths" "[I", Cond.fieldLink RX7 152 "BatchTransfer$Shelf" "names" "[B", Cond.methodLink RL 92 yX8_nameAt, Cond.instanceMethod yX8_nameAt, Cond.selects RX8 yX8_nameAt yX8_nameAt]
def wsL_law0_r26 : List Cond := [Cond.code yX8_nameAt cX8_nameAt 3 (some .int)]
def wsL_law0 : List Cond := (wsL_law0_r1 ++ (wsL_law0_r2 ++ (wsL_law0_r3 ++ (wsL_law0_r4 ++ (wsL_law0_r5 ++ (wsL_law0_r6 ++ (wsL_law0_r7 ++ (wsL_law0_r8 ++ (wsL_law0_r9 ++ (wsL_law0_r10 ++ (wsL_law0_r11 ++ (wsL_law0_r12 ++ (wsL_law0_r13 ++ (wsL_law0_r14 ++ (wsL_law0_r15 ++ (wsL_law0_r16 ++ (wsL_law0_r17 ++ (wsL_law0_r18 ++ (wsL_law0_r19 ++ (wsL_law0_r20 ++ (wsL_law0_r21 ++ (wsL_law0_r22 ++ (wsL_law0_r23 ++ (wsL_law0_r24 ++ (wsL_law0_r25 ++ wsL_law0_r26))))))))))))))))))))))))) ++ wsX70 ++ wsX80 ++ wsX40 ++ wsX60 ++ wsX10 ++ wsX00 ++ wsX20 ++ ([] : List Cond)
def wsL_law : List Cond := wsL_law0 ++ (vx_at0 RX7 127 "java/util/NoSuchElementException" ["java/lang/RuntimeException", "java/lang/Exception"]).filter goodWord
end
section
set_option maxRecDepth 100000 in
theorem lwin_wsL_law0_r1 : ∀ w ∈ wsL_law0_r1, w ∈ lw_tbl := by decide +kernel
set_option maxRecDepth 100000 in
theorem lwin_wsL_law0_r2 : ∀ w ∈ wsL_law0_r2, w ∈ lw_tbl := by decide +kernel
set_option maxRecDepth 100000 in
theorem lwin_wsL_law0_r3 : ∀ w ∈ wsL_law0_r3, w ∈ lw_tbl := by decide +kernel
set_option maxRecDepth 100000 in
theorem lwin_wsL_law0_r4 : ∀ w ∈ wsL_law0_r4, w ∈ lw_tbl := by decide +kernel
set_option maxRecDepth 100000 in
theorem lwin_wsL_law0_r5 : ∀ w ∈ wsL_law0_r5, w ∈ lw_tbl := by decide +kernel
set_option maxRecDepth 100000 in
theorem lwin_wsL_law0_r6 : ∀ w ∈ wsL_law0_r6, w ∈ lw_tbl := by decide +kernel
set_option maxRecDepth 100000 in
theorem lwin_wsL_law0_r7 : ∀ w ∈ wsL_law0_r7, w ∈ lw_tbl := by decide +kernel
set_option maxRecDepth 100000 in
theorem lwin_wsL_law0_r8 : ∀ w ∈ wsL_law0_r8, w ∈ lw_tbl := by decide +kernel
set_option maxRecDepth 100000 in
theorem lwin_wsL_law0_r9 : ∀ w ∈ wsL_law0_r9, w ∈ lw_tbl := by decide +kernel
set_option maxRecDepth 100000 in
theorem lwin_wsL_law0_r10 : ∀ w ∈ wsL_law0_r10, w ∈ lw_tbl := by decide +kernel
set_option maxRecDepth 100000 in
theorem lwin_wsL_law0_r11 : ∀ w ∈ wsL_law0_r11, w ∈ lw_tbl := by decide +kernel
end
section
set_option maxRecDepth 100000 in
theorem lwin_wsL_law0_r12 : ∀ w ∈ wsL_law0_r12, w ∈ lw_tbl := by decide +kernel
set_option maxRecDepth 100000 in
theorem lwin_wsL_law0_r13 : ∀ w ∈ wsL_law0_r13, w ∈ lw_tbl := by decide +kernel
set_option maxRecDepth 100000 in
theorem lwin_wsL_law0_r14 : ∀ w ∈ wsL_law0_r14, w ∈ lw_tbl := by decide +kernel
set_option maxRecDepth 100000 in
theorem lwin_wsL_law0_r15 : ∀ w ∈ wsL_law0_r15, w ∈ lw_tbl := by decide +kernel
set_option maxRecDepth 100000 in
theorem lwin_wsL_law0_r16 : ∀ w ∈ wsL_law0_r16, w ∈ lw_tbl := by decide +kernel
set_option maxRecDepth 100000 in
theorem lwin_wsL_law0_r17 : ∀ w ∈ wsL_law0_r17, w ∈ lw_tbl := by decide +kernel
set_option maxRecDepth 100000 in
theorem lwin_wsL_law0_r18 : ∀ w ∈ wsL_law0_r18, w ∈ lw_tbl := by decide +kernel
set_option maxRecDepth 100000 in
theorem lwin_wsL_law0_r19 : ∀ w ∈ wsL_law0_r19, w ∈ lw_tbl := by decide +kernel
set_option maxRecDepth 100000 in
theorem lwin_wsL_law0_r20 : ∀ w ∈ wsL_law0_r20, w ∈ lw_tbl := by decide +kernel
set_option maxRecDepth 100000 in
theorem lwin_wsL_law0_r21 : ∀ w ∈ wsL_law0_r21, w ∈ lw_tbl := by decide +kernel
set_option maxRecDepth 100000 in
theorem lwin_wsL_law0_r22 : ∀ w ∈ wsL_law0_r22, w ∈ lw_tbl := by decide +kernel
end
section
set_option maxRecDepth 100000 in
theorem lwin_wsL_law0_r23 : ∀ w ∈ wsL_law0_r23, w ∈ lw_tbl := by decide +kernel
set_option maxRecDepth 100000 in
theorem lwin_wsL_law0_r24 : ∀ w ∈ wsL_law0_r24, w ∈ lw_tbl := by decide +kernel
set_option maxRecDepth 100000 in
theorem lwin_wsL_law0_r25 : ∀ w ∈ wsL_law0_r25, w ∈ lw_tbl := by decide +kernel
set_option maxRecDepth 100000 in
theorem lwin_wsL_law0_r26 : ∀ w ∈ wsL_law0_r26, w ∈ lw_tbl := by decide +kernel
set_option maxRecDepth 100000 in
theorem lwin_wsX70 : ∀ w ∈ wsX70, w ∈ lw_tbl := by decide +kernel
set_option maxRecDepth 100000 in
theorem lwin_wsX80 : ∀ w ∈ wsX80, w ∈ lw_tbl := by decide +kernel
set_option maxRecDepth 100000 in
theorem lwin_wsX40 : ∀ w ∈ wsX40, w ∈ lw_tbl := by decide +kernel
set_option maxRecDepth 100000 in
theorem lwin_wsX60 : ∀ w ∈ wsX60, w ∈ lw_tbl := by decide +kernel
set_option maxRecDepth 100000 in
theorem lwin_wsX10 : ∀ w ∈ wsX10, w ∈ lw_tbl := by decide +kernel
set_option maxRecDepth 100000 in
theorem lwin_wsX00 : ∀ w ∈ wsX00, w ∈ lw_tbl := by decide +kernel
set_option maxRecDepth 100000 in
theorem lwin_wsX20 : ∀ w ∈ wsX20, w ∈ lw_tbl := by decide +kernel
end
section
theorem wsL_law_in0 : ∀ w ∈ wsL_law0, w ∈ lw_tbl := (List.forall_mem_append.mpr ⟨(List.forall_mem_append.mpr ⟨(List.forall_mem_append.mpr ⟨(List.forall_mem_append.mpr ⟨(List.forall_mem_append.mpr ⟨(List.forall_mem_append.mpr ⟨(List.forall_mem_append.mpr ⟨(List.forall_mem_append.mpr ⟨(List.forall_mem_append.mpr ⟨lwin_wsL_law0_r1, (List.forall_mem_append.mpr ⟨lwin_wsL_law0_r2, (List.forall_mem_append.mpr ⟨lwin_wsL_law0_r3, (List.forall_mem_append.mpr ⟨lwin_wsL_law0_r4, (List.forall_mem_append.mpr ⟨lwin_wsL_law0_r5, (List.forall_mem_append.mpr ⟨lwin_wsL_law0_r6, (List.forall_mem_append.mpr ⟨lwin_wsL_law0_r7, (List.forall_mem_append.mpr ⟨lwin_wsL_law0_r8, (List.forall_mem_append.mpr ⟨lwin_wsL_law0_r9, (List.forall_mem_append.mpr ⟨lwin_wsL_law0_r10, (List.forall_mem_append.mpr ⟨lwin_wsL_law0_r11, (List.forall_mem_append.mpr ⟨lwin_wsL_law0_r12, (List.forall_mem_append.mpr ⟨lwin_wsL_law0_r13, (List.forall_mem_append.mpr ⟨lwin_wsL_law0_r14, (List.forall_mem_append.mpr ⟨lwin_wsL_law0_r15, (List.forall_mem_append.mpr ⟨lwin_wsL_law0_r16, (List.forall_mem_append.mpr ⟨lwin_wsL_law0_r17, (List.forall_mem_append.mpr ⟨lwin_wsL_law0_r18, (List.forall_mem_append.mpr ⟨lwin_wsL_law0_r19, (List.forall_mem_append.mpr ⟨lwin_wsL_law0_r20, (List.forall_mem_append.mpr ⟨lwin_wsL_law0_r21, (List.forall_mem_append.mpr ⟨lwin_wsL_law0_r22, (List.forall_mem_append.mpr ⟨lwin_wsL_law0_r23, (List.forall_mem_append.mpr ⟨lwin_wsL_law0_r24, (List.forall_mem_append.mpr ⟨lwin_wsL_law0_r25, lwin_wsL_law0_r26⟩)⟩)⟩)⟩)⟩)⟩)⟩)⟩)⟩)⟩)⟩)⟩)⟩)⟩)⟩)⟩)⟩)⟩)⟩)⟩)⟩)⟩)⟩)⟩)⟩), lwin_wsX70⟩), lwin_wsX80⟩), lwin_wsX40⟩), lwin_wsX60⟩), lwin_wsX10⟩), lwin_wsX00⟩), lwin_wsX20⟩), lwin_[] : List Cond⟩)
theorem wsL_law_x0 : ∀ w ∈ (vx_at0 RX7 127 "java/util/NoSuchElementException" ["java/lang/RuntimeException", "java/lang/Exception"]).filter goodWord, w ∈ lw_tbl := by decide +kernel
theorem wsL_law_in : ∀ w ∈ wsL_law, w ∈ lw_tbl := fun w h => (List.mem_append.mp h).elim (fun h => wsL_law_in0 w h) (fun h => wsL_law_x0 w h)
theorem inlX0 : ∀ w ∈ wsX00, w ∈ wsL_law := fun _ h => List.mem_append_left _ (List.mem_append_left _ (List.mem_append_left _ (List.mem_append_right _ h)))
theorem inX0 : ∀ w ∈ wsX00, w ∈ lw_tbl := fun w h => wsL_law_in w (inlX0 w h)
theorem inlX1 : ∀ w ∈ wsX10, w ∈ wsL_law := fun _ h => List.mem_append_left _ (List.mem_append_left _ (List.mem_append_left _ (List.mem_append_left _ (List.mem_append_right _ h))))
theorem inX1 : ∀ w ∈ wsX10, w ∈ lw_tbl := fun w h => wsL_law_in w (inlX1 w h)
theorem inlX2 : ∀ w ∈ wsX20, w ∈ wsL_law := fun _ h => List.mem_append_left _ (List.mem_append_left _ (List.mem_append_right _ h))
theorem inX2 : ∀ w ∈ wsX20, w ∈ lw_tbl := fun w h => wsL_law_in w (inlX2 w h)
theorem inX3 : ∀ w ∈ wsX30, w ∈ lw_tbl := by decide +kernel
theorem inlX4 : ∀ w ∈ wsX40, w ∈ wsL_law := fun _ h => List.mem_append_left _ (List.mem_append_left _ (List.mem_append_left _ (List.mem_append_left _ (List.mem_append_left _ (List.mem_append_left _ (List.mem_append_right _ h))))))
theorem inX4 : ∀ w ∈ wsX40, w ∈ lw_tbl := fun w h => wsL_law_in w (inlX4 w h)
theorem inX5 : ∀ w ∈ wsX50, w ∈ lw_tbl := by decide +kernel
theorem inlX6 : ∀ w ∈ wsX60, w ∈ wsL_law := fun _ h => List.mem_append_left _ (List.mem_append_left _ (List.mem_append_left _ (List.mem_append_left _ (List.mem_append_left _ (List.mem_append_right _ h)))))
theorem inX6 : ∀ w ∈ wsX60, w ∈ lw_tbl := fun w h => wsL_law_in w (inlX6 w h)
theorem inlX7 : ∀ w ∈ wsX70, w ∈ wsL_law := fun _ h => List.mem_append_left _ (List.mem_append_left _ (List.mem_append_left _ (List.mem_append_left _ (List.mem_append_left _ (List.mem_append_left _ (List.mem_append_left _ (List.mem_append_left _ (List.mem_append_right _ h))))))))
theorem inX7 : ∀ w ∈ wsX70, w ∈ lw_tbl := fun w h => wsL_law_in w (inlX7 w h)
theorem inlX8 : ∀ w ∈ wsX80, w ∈ wsL_law := fun _ h => List.mem_append_left _ (List.mem_append_left _ (List.mem_append_left _ (List.mem_append_left _ (List.mem_append_left _ (List.mem_append_left _ (List.mem_append_left _ (List.mem_append_right _ h)))))))
theorem inX8 : ∀ w ∈ wsX80, w ∈ lw_tbl := fun w h => wsL_law_in w (inlX8 w h)
theorem inJx29ce0 : ∀ w ∈ wsJx29ce00, w ∈ lw_tbl := by decide +kernel
theorem inJ9 : ∀ w ∈ wsJ90, w ∈ lw_tbl := by decide +kernel
theorem inJ10 : ∀ w ∈ wsJ100, w ∈ lw_tbl := by decide +kernel
set_option maxRecDepth 20000 in
theorem ggX0_init_X3_init : GoodIn wsX0_init wsX3_init := goodIn_r _ [7, 8, 9, 10] (by decide +kernel) (by decide +kernel)
set_option maxRecDepth 20000 in
theorem gX0_init_X3_init_n3 : GoodIn wsX0_init (wsX3_init) := ggX0_init_X3_init
set_option maxRecDepth 20000 in
theorem ggX0_init_X2_init : GoodIn wsX0_init wsX2_init := goodIn_r _ [13, 14, 9, 10, 15, 16, 17, 18, 19, 20, 21, 22, 23, 24, 25, 26, 27] (by decide +kernel) (by decide +kernel)
set_option maxRecDepth 20000 in
theorem gX0_init_X2_init : GoodIn wsX0_init (wsX2_init) := ggX0_init_X2_init
theorem dX0_init_0 : decode cX0_init 0 = .ok (.aload_n 0, 1) := by decide +kernel
theorem dX0_init_1 : decode cX0_init 1 = .ok (.invokespecial 3, 3) := by decide +kernel
theorem dX0_init_4 : decode cX0_init 4 = .ok (.aload_n 0, 1) := by decide +kernel
theorem dX0_init_5 : decode cX0_init 5 = .ok (.new 9, 3) := by decide +kernel
theorem dX0_init_8 : decode cX0_init 8 = .ok (.dup, 1) := by decide +kernel
theorem dX0_init_9 : decode cX0_init 9 = .ok (.sipush 24576, 3) := by decide +kernel
theorem dX0_init_12 : decode cX0_init 12 = .ok (.invokespecial 11, 3) := by decide +kernel
theorem dX0_init_15 : decode cX0_init 15 = .ok (.putfield 14, 3) := by decide +kernel
theorem dX0_init_18 : decode cX0_init 18 = .ok (.return_, 1) := by decide +kernel
set_option maxRecDepth 20000 in
theorem ggX0_prepare_X3_startWork : GoodIn wsX0_prepare wsX3_startWork := goodIn_r _ [10, 11, 12, 13, 34, 35, 36, 37, 38, 39, 40, 41, 42, 49, 50, 51, 52, 53, 54, 55, 56, 57, 58] (by decide +kernel) (by decide +kernel)
set_option maxRecDepth 20000 in
theorem gX0_prepare_X3_startWork_u20X0 : GoodIn wsX0_prepare (va_wsU RX0 20 RX0 "BatchTransfer$Side" ⟨"BatchTransfer$Receiver", "startWork", "(I)V"⟩ yX3_startWork wsX3_startWork) := goodIn_app (goodIn_of _ (by decide +kernel)) ggX0_prepare_X3_startWork
set_option maxRecDepth 20000 in
theorem ggX0_prepare_X0_expectHead : GoodIn wsX0_prepare wsX0_expectHead := goodIn_r _ [18, 19, 20, 34, 35, 36, 37, 38, 39, 40, 41, 42] (by decide +kernel) (by decide +kernel)
set_option maxRecDepth 20000 in
theorem gX0_prepare_X0_expectHead : GoodIn wsX0_prepare (wsV RX0 34 RX0 yX0_expectHead wsX0_expectHead) := goodIn_app (goodIn_of _ (by decide +kernel)) ggX0_prepare_X0_expectHead
set_option maxRecDepth 20000 in
theorem ggX0_prepare_X2_open : GoodIn wsX0_prepare wsX2_open := goodIn_r _ [25, 26, 27, 28, 29, 43, 44, 45, 46, 47, 48] (by decide +kernel) (by decide +kernel)
set_option maxRecDepth 20000 in
theorem gX0_prepare_X2_open : GoodIn wsX0_prepare (wsV RX0 37 RX2 yX2_open wsX2_open) := goodIn_app (goodIn_of _ (by decide +kernel)) ggX0_prepare_X2_open
set_option maxRecDepth 20000 in
theorem ggX0_prepare_X0_expectBlocks : GoodIn wsX0_prepare wsX0_expectBlocks := goodIn_r _ [33, 19, 20, 34, 35, 36, 37, 38, 39, 40, 41, 42] (by decide +kernel) (by decide +kernel)
set_option maxRecDepth 20000 in
theorem gX0_prepare_X0_expectBlocks : GoodIn wsX0_prepare (wsV RX0 40 RX0 yX0_expectBlocks wsX0_expectBlocks) := goodIn_app (goodIn_of _ (by decide +kernel)) ggX0_prepare_X0_expectBlocks
theorem dX0_prepare_0 : decode cX0_prepare 0 = .ok (.aload_n 0, 1) := by decide +kernel
theorem dX0_prepare_1 : decode cX0_prepare 1 = .ok (.iload_n 1, 1) := by decide +kernel
theorem dX0_prepare_2 : decode cX0_prepare 2 = .ok (.invokevirtual 20, 3) := by decide +kernel
theorem dX0_prepare_5 : decode cX0_prepare 5 = .ok (.aload_n 0, 1) := by decide +kernel
theorem dX0_prepare_6 : decode cX0_prepare 6 = .ok (.getfield 14, 3) := by decide +kernel
theorem dX0_prepare_9 : decode cX0_prepare 9 = .ok (.iconst 0, 1) := by decide +kernel
theorem dX0_prepare_10 : decode cX0_prepare 10 = .ok (.putfield 23, 3) := by decide +kernel
theorem dX0_prepare_13 : decode cX0_prepare 13 = .ok (.aload_n 0, 1) := by decide +kernel
theorem dX0_prepare_14 : decode cX0_prepare 14 = .ok (.iconst 0, 1) := by decide +kernel
theorem dX0_prepare_15 : decode cX0_prepare 15 = .ok (.putfield 27, 3) := by decide +kernel
theorem dX0_prepare_18 : decode cX0_prepare 18 = .ok (.aload_n 0, 1) := by decide +kernel
theorem dX0_prepare_19 : decode cX0_prepare 19 = .ok (.iconst 0, 1) := by decide +kernel
theorem dX0_prepare_20 : decode cX0_prepare 20 = .ok (.putfield 31, 3) := by decide +kernel
theorem dX0_prepare_23 : decode cX0_prepare 23 = .ok (.iload_n 1, 1) := by decide +kernel
theorem dX0_prepare_24 : decode cX0_prepare 24 = .ok (.iconst 3, 1) := by decide +kernel
theorem dX0_prepare_25 : decode cX0_prepare 25 = .ok (.if_icmp .ne 10, 3) := by decide +kernel
theorem dX0_prepare_28 : decode cX0_prepare 28 = .ok (.aload_n 0, 1) := by decide +kernel
theorem dX0_prepare_29 : decode cX0_prepare 29 = .ok (.invokevirtual 34, 3) := by decide +kernel
theorem dX0_prepare_32 : decode cX0_prepare 32 = .ok (.goto 14, 3) := by decide +kernel
theorem dX0_prepare_35 : decode cX0_prepare 35 = .ok (.aload_n 0, 1) := by decide +kernel
theorem dX0_prepare_36 : decode cX0_prepare 36 = .ok (.getfield 14, 3) := by decide +kernel
theorem dX0_prepare_39 : decode cX0_prepare 39 = .ok (.invokevirtual 37, 3) := by decide +kernel
theorem dX0_prepare_42 : decode cX0_prepare 42 = .ok (.aload_n 0, 1) := by decide +kernel
theorem dX0_prepare_43 : decode cX0_prepare 43 = .ok (.invokevirtual 40, 3) := by decide +kernel
theorem dX0_prepare_46 : decode cX0_prepare 46 = .ok (.return_, 1) := by decide +kernel
set_option maxRecDepth 20000 in
theorem ggX0_answer_X6_isRightBlock : GoodIn wsX0_answer wsX6_isRightBlock := goodIn_r _ [8, 9, 10, 11, 12, 7, 13, 14, 15, 16, 17, 18, 19, 20, 21, 22, 23, 24, 25, 26, 27, 154, 155] (by decide +kernel) (by decide +kernel)
set_option maxRecDepth 20000 in
theorem gX0_answer_X6_isRightBlock : GoodIn wsX0_answer (wsV RX0 46 RX6 yX6_isRightBlock wsX6_isRightBlock) := goodIn_app (goodIn_of _ (by decide +kernel)) ggX0_answer_X6_isRightBlock
set_option maxRecDepth 20000 in
theorem ggX0_answer_X0_answerBlock : GoodIn wsX0_answer wsX0_answerBlock := goodIn_r _ [32, 33, 3, 34, 35, 36, 15, 16, 7, 17, 18, 37, 38, 39, 31, 40, 41, 42, 43, 44, 45, 46, 47, 48, 49, 50, 51, 52, 53, 54, 55, 56, 57, 58, 59, 60, 61, 62, 63, 64, 65, 66, 67, 68, 69, 70, 71, 72, 73, 74, 75, 76, 77, 78, 11, 12, 13, 14, 79, 80, 81, 82, 83, 84, 85, 86, 87, 88, 89, 90, 91, 92, 93, 9, 94, 95, 96, 97, 98, 99, 100, 101, 135, 136, 137, 138, 139, 140, 141, 142, 143, 154, 155, 144, 145, 146, 147, 148, 149, 150, 151, 152, 153, 156, 157, 158, 159, 160, 161] (by decide +kernel) (by decide +kernel)
set_option maxRecDepth 20000 in
theorem gX0_answer_X0_answerBlock : GoodIn wsX0_answer (wsV RX0 52 RX0 yX0_answerBlock wsX0_answerBlock) := goodIn_app (goodIn_of _ (by decide +kernel)) ggX0_answer_X0_answerBlock
set_option maxRecDepth 20000 in
theorem ggX0_answer_X6_isByte : GoodIn wsX0_answer wsX6_isByte := goodIn_r _ [105, 9, 14, 15, 16, 7, 17, 18, 154, 155] (by decide +kernel) (by decide +kernel)
set_option maxRecDepth 20000 in
theorem gX0_answer_X6_isByte : GoodIn wsX0_answer (wsV RX0 56 RX6 yX6_isByte wsX6_isByte) := goodIn_app (goodIn_of _ (by decide +kernel)) ggX0_answer_X6_isByte
set_option maxRecDepth 20000 in
theorem ggX0_answer_X0_answerEnd : GoodIn wsX0_answer wsX0_answerEnd := goodIn_r _ [109, 35, 110, 111, 112, 31, 113, 1, 2, 43, 45, 34, 41, 42, 114, 115, 116, 52, 117, 54, 56, 118, 119, 120, 121, 33, 84, 85, 86, 87, 88, 89, 90, 91, 92, 7, 93, 18, 9, 135, 136, 137, 138, 139, 140, 141, 142, 143, 144, 145, 146, 147, 148, 149, 150, 151, 152, 153, 156, 157, 158, 159, 160, 161, 154, 155] (by decide +kernel) (by decide +kernel)
set_option maxRecDepth 20000 in
theorem gX0_answer_X0_answerEnd : GoodIn wsX0_answer (wsV RX0 59 RX0 yX0_answerEnd wsX0_answerEnd) := goodIn_app (goodIn_of _ (by decide +kernel)) ggX0_answer_X0_answerEnd
set_option maxRecDepth 20000 in
theorem ggX0_answer_X3_bearsMiss : GoodIn wsX0_answer wsX3_bearsMiss := goodIn_r _ [126, 127, 128, 129, 130, 97, 98, 99, 100, 101, 91, 92, 7, 93, 18, 9, 131, 135, 136, 137, 138, 139, 140, 141, 142, 143, 144, 145, 146, 147, 148, 149, 150, 151, 152, 153, 154, 155] (by decide +kernel) (by decide +kernel)
set_option maxRecDepth 20000 in
theorem gX0_answer_X3_bearsMiss_u62X0 : GoodIn wsX0_answer (va_wsU RX0 62 RX0 "BatchTransfer$Side" ⟨"BatchTransfer$Receiver", "bearsMiss", "(LBatchTransfer$Wire;)Z"⟩ yX3_bearsMiss wsX3_bearsMiss) := goodIn_app (goodIn_of _ (by decide +kernel)) ggX0_answer_X3_bearsMiss
set_option maxRecDepth 20000 in
theorem ggX0_answer_X7_askOf : GoodIn wsX0_answer wsX7_askOf := goodIn_r _ [134] (by decide +kernel) (by decide +kernel)
set_option maxRecDepth 20000 in
theorem gX0_answer_X7_askOf_n66 : GoodIn wsX0_answer (wsX7_askOf) := ggX0_answer_X7_askOf
set_option maxRecDepth 20000 in
theorem ggX0_answer_X6_putByte : GoodIn wsX0_answer wsX6_putByte := goodIn_r _ [93, 18, 9, 154, 155] (by decide +kernel) (by decide +kernel)
set_option maxRecDepth 20000 in
theorem gX0_answer_X6_putByte : GoodIn wsX0_answer (wsV RX0 70 RX6 yX6_putByte wsX6_putByte) := goodIn_app (goodIn_of _ (by decide +kernel)) ggX0_answer_X6_putByte
theorem dX0_answer_0 : decode cX0_answer 0 = .ok (.aload_n 1, 1) := by decide +kernel
theorem dX0_answer_1 : decode cX0_answer 1 = .ok (.aload_n 0, 1) := by decide +kernel
theorem dX0_answer_2 : decode cX0_answer 2 = .ok (.getfield 43, 3) := by decide +kernel
theorem dX0_answer_5 : decode cX0_answer 5 = .ok (.invokevirtual 46, 3) := by decide +kernel
theorem dX0_answer_8 : decode cX0_answer 8 = .ok (.ifCond .eq 11, 3) := by decide +kernel
theorem dX0_answer_11 : decode cX0_answer 11 = .ok (.aload_n 0, 1) := by decide +kernel
theorem dX0_answer_12 : decode cX0_answer 12 = .ok (.aload_n 1, 1) := by decide +kernel
theorem dX0_answer_13 : decode cX0_answer 13 = .ok (.invokevirtual 52, 3) := by decide +kernel
theorem dX0_answer_16 : decode cX0_answer 16 = .ok (.goto 50, 3) := by decide +kernel
theorem dX0_answer_19 : decode cX0_answer 19 = .ok (.aload_n 1, 1) := by decide +kernel
theorem dX0_answer_20 : decode cX0_answer 20 = .ok (.iconst 4, 1) := by decide +kernel
theorem dX0_answer_21 : decode cX0_answer 21 = .ok (.invokevirtual 56, 3) := by decide +kernel
theorem dX0_answer_24 : decode cX0_answer 24 = .ok (.ifCond .eq 11, 3) := by decide +kernel
theorem dX0_answer_27 : decode cX0_answer 27 = .ok (.aload_n 0, 1) := by decide +kernel
theorem dX0_answer_28 : decode cX0_answer 28 = .ok (.aload_n 1, 1) := by decide +kernel
theorem dX0_answer_29 : decode cX0_answer 29 = .ok (.invokevirtual 59, 3) := by decide +kernel
theorem dX0_answer_32 : decode cX0_answer 32 = .ok (.goto 34, 3) := by decide +kernel
theorem dX0_answer_35 : decode cX0_answer 35 = .ok (.aload_n 0, 1) := by decide +kernel
theorem dX0_answer_36 : decode cX0_answer 36 = .ok (.aload_n 1, 1) := by decide +kernel
theorem dX0_answer_37 : decode cX0_answer 37 = .ok (.invokevirtual 62, 3) := by decide +kernel
theorem dX0_answer_40 : decode cX0_answer 40 = .ok (.ifCond .eq 26, 3) := by decide +kernel
theorem dX0_answer_43 : decode cX0_answer 43 = .ok (.aload_n 1, 1) := by decide +kernel
theorem dX0_answer_44 : decode cX0_answer 44 = .ok (.aload_n 0, 1) := by decide +kernel
theorem dX0_answer_45 : decode cX0_answer 45 = .ok (.getfield 27, 3) := by decide +kernel
theorem dX0_answer_48 : decode cX0_answer 48 = .ok (.ifCond .eq 8, 3) := by decide +kernel
theorem dX0_answer_51 : decode cX0_answer 51 = .ok (.bipush 21, 2) := by decide +kernel
theorem dX0_answer_53 : decode cX0_answer 53 = .ok (.goto 10, 3) := by decide +kernel
theorem dX0_answer_56 : decode cX0_answer 56 = .ok (.aload_n 0, 1) := by decide +kernel
theorem dX0_answer_57 : decode cX0_answer 57 = .ok (.getfield 43, 3) := by decide +kernel
theorem dX0_answer_60 : decode cX0_answer 60 = .ok (.invokestatic 66, 3) := by decide +kernel
theorem dX0_answer_63 : decode cX0_answer 63 = .ok (.invokevirtual 70, 3) := by decide +kernel
theorem dX0_answer_66 : decode cX0_answer 66 = .ok (.return_, 1) := by decide +kernel
set_option maxRecDepth 20000 in
theorem ggX0_answerBlock_X6_get : GoodIn wsX0_answerBlock wsX6_get := goodIn_r _ [9, 10, 91, 92] (by decide +kernel) (by decide +kernel)
set_option maxRecDepth 20000 in
theorem gX0_answerBlock_X6_get : GoodIn wsX0_answerBlock (wsV RX0 73 RX6 yX6_get wsX6_get) := goodIn_app (goodIn_of _ (by decide +kernel)) ggX0_answerBlock_X6_get
set_option maxRecDepth 20000 in
theorem ggX0_answerBlock_X0_takeHead : GoodIn wsX0_answerBlock wsX0_takeHead := goodIn_r _ [15, 16, 17, 18, 19, 20, 21, 22, 14, 23, 5, 6, 7, 8, 9, 10, 24, 25, 26, 27, 28, 29, 30, 31, 32, 33, 34, 35, 36, 37, 38, 39, 40, 41, 42, 43, 44, 45, 46, 47, 48, 1, 4, 82, 83, 84, 85, 86, 87, 88, 89, 90, 93, 94, 95, 96, 97, 98, 99, 100, 101, 102, 91, 92, 103, 104, 105, 106, 107, 108] (by decide +kernel) (by decide +kernel)
set_option maxRecDepth 20000 in
theorem gX0_answerBlock_X0_takeHead : GoodIn wsX0_answerBlock (wsV RX0 82 RX0 yX0_takeHead wsX0_takeHead) := goodIn_app (goodIn_of _ (by decide +kernel)) ggX0_answerBlock_X0_takeHead
set_option maxRecDepth 20000 in
theorem ggX0_answerBlock_X0_takeData : GoodIn wsX0_answerBlock wsX0_takeData := goodIn_r _ [52, 18, 19, 1, 53, 54, 55, 8, 56, 57, 6, 7, 9, 10, 58, 59, 60, 27, 61, 29, 30, 31, 62, 38, 39, 40, 41, 82, 83, 84, 85, 86, 87, 88, 89, 90, 91, 92, 103, 104, 105, 106, 107, 108] (by decide +kernel) (by decide +kernel)
set_option maxRecDepth 20000 in
theorem gX0_answerBlock_X0_takeData : GoodIn wsX0_answerBlock (wsV RX0 85 RX0 yX0_takeData wsX0_takeData) := goodIn_app (goodIn_of _ (by decide +kernel)) ggX0_answerBlock_X0_takeData
set_option maxRecDepth 20000 in
theorem ggX0_answerBlock_X0_acknowledge : GoodIn wsX0_answerBlock wsX0_acknowledge := goodIn_r _ [66, 67, 68, 69, 70, 71, 8, 72, 10, 73, 82, 83, 84, 85, 86, 87, 88, 89, 90, 93, 94, 95, 96, 97, 98, 99, 100, 101, 102, 91, 92] (by decide +kernel) (by decide +kernel)
set_option maxRecDepth 20000 in
theorem gX0_answerBlock_X0_acknowledge : GoodIn wsX0_answerBlock (wsV RX0 88 RX0 yX0_acknowledge wsX0_acknowledge) := goodIn_app (goodIn_of _ (by decide +kernel)) ggX0_answerBlock_X0_acknowledge
set_option maxRecDepth 20000 in
theorem ggX0_answerBlock_X3_giveUp : GoodIn wsX0_answerBlock wsX3_giveUp := goodIn_r _ [79, 80, 81, 70, 71, 8, 72, 10, 73, 82, 83, 84, 85, 86, 87, 88, 89, 90, 93, 94, 95, 96, 97, 98, 99, 100, 101, 102, 91, 92] (by decide +kernel) (by decide +kernel)
set_option maxRecDepth 20000 in
theorem gX0_answerBlock_X3_giveUp_u91X0 : GoodIn wsX0_answerBlock (va_wsU RX0 91 RX0 "BatchTransfer$Side" ⟨"BatchTransfer$Receiver", "giveUp", "(LBatchTransfer$Wire;)V"⟩ yX3_giveUp wsX3_giveUp) := goodIn_app (goodIn_of _ (by decide +kernel)) ggX0_answerBlock_X3_giveUp
theorem dX0_answerBlock_0 : decode cX0_answerBlock 0 = .ok (.aload_n 1, 1) := by decide +kernel
theorem dX0_answerBlock_1 : decode cX0_answerBlock 1 = .ok (.iconst 1, 1) := by decide +kernel
theorem dX0_answerBlock_2 : decode cX0_answerBlock 2 = .ok (.invokevirtual 73, 3) := by decide +kernel
theorem dX0_answerBlock_5 : decode cX0_answerBlock 5 = .ok (.istore_n 2, 1) := by decide +kernel
theorem dX0_answerBlock_6 : decode cX0_answerBlock 6 = .ok (.iload_n 2, 1) := by decide +kernel
theorem dX0_answerBlock_7 : decode cX0_answerBlock 7 = .ok (.aload_n 0, 1) := by decide +kernel
theorem dX0_answerBlock_8 : decode cX0_answerBlock 8 = .ok (.getfield 76, 3) := by decide +kernel
theorem dX0_answerBlock_11 : decode cX0_answerBlock 11 = .ok (.if_icmp .ne 41, 3) := by decide +kernel
theorem dX0_answerBlock_14 : decode cX0_answerBlock 14 = .ok (.aload_n 0, 1) := by decide +kernel
theorem dX0_answerBlock_15 : decode cX0_answerBlock 15 = .ok (.iconst 1, 1) := by decide +kernel
theorem dX0_answerBlock_16 : decode cX0_answerBlock 16 = .ok (.putfield 27, 3) := by decide +kernel
theorem dX0_answerBlock_19 : decode cX0_answerBlock 19 = .ok (.aload_n 0, 1) := by decide +kernel
theorem dX0_answerBlock_20 : decode cX0_answerBlock 20 = .ok (.iconst 1, 1) := by decide +kernel
theorem dX0_answerBlock_21 : decode cX0_answerBlock 21 = .ok (.putfield 31, 3) := by decide +kernel
theorem dX0_answerBlock_24 : decode cX0_answerBlock 24 = .ok (.aload_n 0, 1) := by decide +kernel
theorem dX0_answerBlock_25 : decode cX0_answerBlock 25 = .ok (.getfield 79, 3) := by decide +kernel
theorem dX0_answerBlock_28 : decode cX0_answerBlock 28 = .ok (.ifCond .eq 11, 3) := by decide +kernel
theorem dX0_answerBlock_31 : decode cX0_answerBlock 31 = .ok (.aload_n 0, 1) := by decide +kernel
theorem dX0_answerBlock_32 : decode cX0_answerBlock 32 = .ok (.aload_n 1, 1) := by decide +kernel
theorem dX0_answerBlock_33 : decode cX0_answerBlock 33 = .ok (.invokevirtual 82, 3) := by decide +kernel
theorem dX0_answerBlock_36 : decode cX0_answerBlock 36 = .ok (.goto 8, 3) := by decide +kernel
theorem dX0_answerBlock_39 : decode cX0_answerBlock 39 = .ok (.aload_n 0, 1) := by decide +kernel
theorem dX0_answerBlock_40 : decode cX0_answerBlock 40 = .ok (.aload_n 1, 1) := by decide +kernel
theorem dX0_answerBlock_41 : decode cX0_answerBlock 41 = .ok (.invokevirtual 85, 3) := by decide +kernel
theorem dX0_answerBlock_44 : decode cX0_answerBlock 44 = .ok (.aload_n 0, 1) := by decide +kernel
theorem dX0_answerBlock_45 : decode cX0_answerBlock 45 = .ok (.aload_n 1, 1) := by decide +kernel
theorem dX0_answerBlock_46 : decode cX0_answerBlock 46 = .ok (.invokevirtual 88, 3) := by decide +kernel
theorem dX0_answerBlock_49 : decode cX0_answerBlock 49 = .ok (.goto 37, 3) := by decide +kernel
theorem dX0_answerBlock_52 : decode cX0_answerBlock 52 = .ok (.aload_n 0, 1) := by decide +kernel
theorem dX0_answerBlock_53 : decode cX0_answerBlock 53 = .ok (.getfield 31, 3) := by decide +kernel
theorem dX0_answerBlock_56 : decode cX0_answerBlock 56 = .ok (.ifCond .eq 25, 3) := by decide +kernel
theorem dX0_answerBlock_59 : decode cX0_answerBlock 59 = .ok (.iload_n 2, 1) := by decide +kernel
theorem dX0_answerBlock_60 : decode cX0_answerBlock 60 = .ok (.aload_n 0, 1) := by decide +kernel
theorem dX0_answerBlock_61 : decode cX0_answerBlock 61 = .ok (.getfield 76, 3) := by decide +kernel
theorem dX0_answerBlock_64 : decode cX0_answerBlock 64 = .ok (.iconst 1, 1) := by decide +kernel
theorem dX0_answerBlock_65 : decode cX0_answerBlock 65 = .ok (.isub, 1) := by decide +kernel
theorem dX0_answerBlock_66 : decode cX0_answerBlock 66 = .ok (.sipush 255, 3) := by decide +kernel
theorem dX0_answerBlock_69 : decode cX0_answerBlock 69 = .ok (.iand, 1) := by decide +kernel
theorem dX0_answerBlock_70 : decode cX0_answerBlock 70 = .ok (.if_icmp .ne 11, 3) := by decide +kernel
theorem dX0_answerBlock_73 : decode cX0_answerBlock 73 = .ok (.aload_n 0, 1) := by decide +kernel
theorem dX0_answerBlock_74 : decode cX0_answerBlock 74 = .ok (.aload_n 1, 1) := by decide +kernel
theorem dX0_answerBlock_75 : decode cX0_answerBlock 75 = .ok (.invokevirtual 88, 3) := by decide +kernel
theorem dX0_answerBlock_78 : decode cX0_answerBlock 78 = .ok (.goto 8, 3) := by decide +kernel
theorem dX0_answerBlock_81 : decode cX0_answerBlock 81 = .ok (.aload_n 0, 1) := by decide +kernel
theorem dX0_answerBlock_82 : decode cX0_answerBlock 82 = .ok (.aload_n 1, 1) := by decide +kernel
theorem dX0_answerBlock_83 : decode cX0_answerBlock 83 = .ok (.invokevirtual 91, 3) := by decide +kernel
theorem dX0_answerBlock_86 : decode cX0_answerBlock 86 = .ok (.return_, 1) := by decide +kernel
set_option maxRecDepth 20000 in
theorem ggX0_answerEnd_X0_closeFile : GoodIn wsX0_answerEnd wsX0_closeFile := goodIn_r _ [6, 7, 8, 9, 10, 11, 12, 13, 14, 15, 16, 17, 18, 19, 20, 21, 22, 23, 5, 24, 25, 1, 39, 40, 41, 42, 43, 44, 45, 46, 47, 48, 49, 50, 51, 52, 53, 54, 55, 56, 57, 58, 59, 60, 61, 62, 63] (by decide +kernel) (by decide +kernel)
set_option maxRecDepth 20000 in
theorem gX0_answerEnd_X0_closeFile : GoodIn wsX0_answerEnd (wsV RX0 94 RX0 yX0_closeFile wsX0_closeFile) := goodIn_app (goodIn_of _ (by decide +kernel)) ggX0_answerEnd_X0_closeFile
set_option maxRecDepth 20000 in
theorem ggX0_answerEnd_X0_acknowledge : GoodIn wsX0_answerEnd wsX0_acknowledge := goodIn_r _ [29, 30, 31, 32, 33, 34, 35, 36, 37, 38, 39, 40, 41, 42, 43, 44, 45, 46, 47, 48, 49, 50, 51, 52, 53, 54, 55, 56, 57, 64, 65] (by decide +kernel) (by decide +kernel)
set_option maxRecDepth 20000 in
theorem gX0_answerEnd_X0_acknowledge : GoodIn wsX0_answerEnd (wsV RX0 88 RX0 yX0_acknowledge wsX0_acknowledge) := goodIn_app (goodIn_of _ (by decide +kernel)) ggX0_answerEnd_X0_acknowledge
theorem dX0_answerEnd_0 : decode cX0_answerEnd 0 = .ok (.aload_n 0, 1) := by decide +kernel
theorem dX0_answerEnd_1 : decode cX0_answerEnd 1 = .ok (.getfield 79, 3) := by decide +kernel
theorem dX0_answerEnd_4 : decode cX0_answerEnd 4 = .ok (.ifCond .ne 7, 3) := by decide +kernel
theorem dX0_answerEnd_7 : decode cX0_answerEnd 7 = .ok (.aload_n 0, 1) := by decide +kernel
theorem dX0_answerEnd_8 : decode cX0_answerEnd 8 = .ok (.invokevirtual 94, 3) := by decide +kernel
theorem dX0_answerEnd_11 : decode cX0_answerEnd 11 = .ok (.aload_n 0, 1) := by decide +kernel
theorem dX0_answerEnd_12 : decode cX0_answerEnd 12 = .ok (.aload_n 1, 1) := by decide +kernel
theorem dX0_answerEnd_13 : decode cX0_answerEnd 13 = .ok (.invokevirtual 88, 3) := by decide +kernel
theorem dX0_answerEnd_16 : decode cX0_answerEnd 16 = .ok (.return_, 1) := by decide +kernel
set_option maxRecDepth 20000 in
theorem ggX0_acknowledge_X6_putByte : GoodIn wsX0_acknowledge wsX6_putByte := goodIn_r _ [7, 8, 9, 29, 30] (by decide +kernel) (by decide +kernel)
set_option maxRecDepth 20000 in
theorem gX0_acknowledge_X6_putByte : GoodIn wsX0_acknowledge (wsV RX0 70 RX6 yX6_putByte wsX6_putByte) := goodIn_app (goodIn_of _ (by decide +kernel)) ggX0_acknowledge_X6_putByte
theorem dX0_acknowledge_0 : decode cX0_acknowledge 0 = .ok (.aload_n 0, 1) := by decide +kernel
theorem dX0_acknowledge_1 : decode cX0_acknowledge 1 = .ok (.iconst 0, 1) := by decide +kernel
theorem dX0_acknowledge_2 : decode cX0_acknowledge 2 = .ok (.putfield 97, 3) := by decide +kernel
theorem dX0_acknowledge_5 : decode cX0_acknowledge 5 = .ok (.aload_n 1, 1) := by decide +kernel
theorem dX0_acknowledge_6 : decode cX0_acknowledge 6 = .ok (.bipush 6, 2) := by decide +kernel
theorem dX0_acknowledge_8 : decode cX0_acknowledge 8 = .ok (.invokevirtual 70, 3) := by decide +kernel
theorem dX0_acknowledge_11 : decode cX0_acknowledge 11 = .ok (.return_, 1) := by decide +kernel
set_option maxRecDepth 20000 in
theorem ggX0_takeHead_X0_nameLengthIn : GoodIn wsX0_takeHead wsX0_nameLengthIn := goodIn_r _ [9, 10, 11, 12, 13, 14, 15, 62, 63] (by decide +kernel) (by decide +kernel)
set_option maxRecDepth 20000 in
theorem gX0_takeHead_X0_nameLengthIn : GoodIn wsX0_takeHead (va_wsS RX0 100 yX0_nameLengthIn wsX0_nameLengthIn) := goodIn_app (goodIn_of _ (by decide +kernel)) ggX0_takeHead_X0_nameLengthIn
set_option maxRecDepth 20000 in
theorem ggX0_takeHead_X2_open : GoodIn wsX0_takeHead wsX2_open := goodIn_r _ [20, 21, 22, 23, 24, 64, 65, 66, 67, 68, 69] (by decide +kernel) (by decide +kernel)
set_option maxRecDepth 20000 in
theorem gX0_takeHead_X2_open : GoodIn wsX0_takeHead (wsV RX0 37 RX2 yX2_open wsX2_open) := goodIn_app (goodIn_of _ (by decide +kernel)) ggX0_takeHead_X2_open
set_option maxRecDepth 20000 in
theorem ggX0_takeHead_X2_nameLast : GoodIn wsX0_takeHead wsX2_nameLast := goodIn_r _ [28, 21, 29, 30, 31, 32, 33, 24, 64, 65, 66, 67, 68, 69] (by decide +kernel) (by decide +kernel)
set_option maxRecDepth 20000 in
theorem gX0_takeHead_X2_nameLast : GoodIn wsX0_takeHead (wsV RX0 111 RX2 yX2_nameLast wsX2_nameLast) := goodIn_app (goodIn_of _ (by decide +kernel)) ggX0_takeHead_X2_nameLast
set_option maxRecDepth 20000 in
theorem ggX0_takeHead_X0_numberIn : GoodIn wsX0_takeHead wsX0_numberIn := goodIn_r _ [36, 10, 11, 12, 13, 14, 15, 62, 63] (by decide +kernel) (by decide +kernel)
set_option maxRecDepth 20000 in
theorem gX0_takeHead_X0_numberIn : GoodIn wsX0_takeHead (va_wsS RX0 115 yX0_numberIn wsX0_numberIn) := goodIn_app (goodIn_of _ (by decide +kernel)) ggX0_takeHead_X0_numberIn
set_option maxRecDepth 20000 in
theorem ggX0_takeHead_X0_expectBlocks : GoodIn wsX0_takeHead wsX0_expectBlocks := goodIn_r _ [40, 41, 42, 43, 44, 45, 46, 47, 48, 49, 50, 51] (by decide +kernel) (by decide +kernel)
set_option maxRecDepth 20000 in
theorem gX0_takeHead_X0_expectBlocks : GoodIn wsX0_takeHead (wsV RX0 40 RX0 yX0_expectBlocks wsX0_expectBlocks) := goodIn_app (goodIn_of _ (by decide +kernel)) ggX0_takeHead_X0_expectBlocks
theorem dX0_takeHead_0 : decode cX0_takeHead 0 = .ok (.aload_n 1, 1) := by decide +kernel
theorem dX0_takeHead_1 : decode cX0_takeHead 1 = .ok (.invokestatic 100, 3) := by decide +kernel
theorem dX0_takeHead_4 : decode cX0_takeHead 4 = .ok (.istore_n 2, 1) := by decide +kernel
theorem dX0_takeHead_5 : decode cX0_takeHead 5 = .ok (.iload_n 2, 1) := by decide +kernel
theorem dX0_takeHead_6 : decode cX0_takeHead 6 = .ok (.ifCond .ne 9, 3) := by decide +kernel
theorem dX0_takeHead_9 : decode cX0_takeHead 9 = .ok (.aload_n 0, 1) := by decide +kernel
theorem dX0_takeHead_10 : decode cX0_takeHead 10 = .ok (.iconst 1, 1) := by decide +kernel
theorem dX0_takeHead_11 : decode cX0_takeHead 11 = .ok (.putfield 104, 3) := by decide +kernel
theorem dX0_takeHead_14 : decode cX0_takeHead 14 = .ok (.return_, 1) := by decide +kernel
theorem dX0_takeHead_15 : decode cX0_takeHead 15 = .ok (.aload_n 0, 1) := by decide +kernel
theorem dX0_takeHead_16 : decode cX0_takeHead 16 = .ok (.getfield 14, 3) := by decide +kernel
theorem dX0_takeHead_19 : decode cX0_takeHead 19 = .ok (.invokevirtual 37, 3) := by decide +kernel
theorem dX0_takeHead_22 : decode cX0_takeHead 22 = .ok (.aload_n 0, 1) := by decide +kernel
theorem dX0_takeHead_23 : decode cX0_takeHead 23 = .ok (.getfield 14, 3) := by decide +kernel
theorem dX0_takeHead_26 : decode cX0_takeHead 26 = .ok (.aload_n 1, 1) := by decide +kernel
theorem dX0_takeHead_27 : decode cX0_takeHead 27 = .ok (.getfield 107, 3) := by decide +kernel
theorem dX0_takeHead_30 : decode cX0_takeHead 30 = .ok (.iconst 3, 1) := by decide +kernel
theorem dX0_takeHead_31 : decode cX0_takeHead 31 = .ok (.iload_n 2, 1) := by decide +kernel
theorem dX0_takeHead_32 : decode cX0_takeHead 32 = .ok (.invokevirtual 111, 3) := by decide +kernel
theorem dX0_takeHead_35 : decode cX0_takeHead 35 = .ok (.aload_n 0, 1) := by decide +kernel
theorem dX0_takeHead_36 : decode cX0_takeHead 36 = .ok (.aload_n 1, 1) := by decide +kernel
theorem dX0_takeHead_37 : decode cX0_takeHead 37 = .ok (.iconst 3, 1) := by decide +kernel
theorem dX0_takeHead_38 : decode cX0_takeHead 38 = .ok (.iload_n 2, 1) := by decide +kernel
theorem dX0_takeHead_39 : decode cX0_takeHead 39 = .ok (.iadd, 1) := by decide +kernel
theorem dX0_takeHead_40 : decode cX0_takeHead 40 = .ok (.iconst 1, 1) := by decide +kernel
theorem dX0_takeHead_41 : decode cX0_takeHead 41 = .ok (.iadd, 1) := by decide +kernel
theorem dX0_takeHead_42 : decode cX0_takeHead 42 = .ok (.invokestatic 115, 3) := by decide +kernel
theorem dX0_takeHead_45 : decode cX0_takeHead 45 = .ok (.putfield 119, 3) := by decide +kernel
theorem dX0_takeHead_48 : decode cX0_takeHead 48 = .ok (.aload_n 0, 1) := by decide +kernel
theorem dX0_takeHead_49 : decode cX0_takeHead 49 = .ok (.invokevirtual 40, 3) := by decide +kernel
theorem dX0_takeHead_52 : decode cX0_takeHead 52 = .ok (.return_, 1) := by decide +kernel
set_option maxRecDepth 20000 in
theorem ggX0_nameLengthIn_X6_get : GoodIn wsX0_nameLengthIn wsX6_get := goodIn_r _ [5, 6, 7, 8] (by decide +kernel) (by decide +kernel)
set_option maxRecDepth 20000 in
theorem gX0_nameLengthIn_X6_get : GoodIn wsX0_nameLengthIn (wsV RX0 73 RX6 yX6_get wsX6_get) := goodIn_app (goodIn_of _ (by decide +kernel)) ggX0_nameLengthIn_X6_get
theorem dX0_nameLengthIn_0 : decode cX0_nameLengthIn 0 = .ok (.iconst 0, 1) := by decide +kernel
theorem dX0_nameLengthIn_1 : decode cX0_nameLengthIn 1 = .ok (.istore_n 1, 1) := by decide +kernel
theorem dX0_nameLengthIn_2 : decode cX0_nameLengthIn 2 = .ok (.iload_n 1, 1) := by decide +kernel
theorem dX0_nameLengthIn_3 : decode cX0_nameLengthIn 3 = .ok (.bipush 12, 2) := by decide +kernel
theorem dX0_nameLengthIn_5 : decode cX0_nameLengthIn 5 = .ok (.if_icmp .ge 19, 3) := by decide +kernel
theorem dX0_nameLengthIn_8 : decode cX0_nameLengthIn 8 = .ok (.aload_n 0, 1) := by decide +kernel
theorem dX0_nameLengthIn_9 : decode cX0_nameLengthIn 9 = .ok (.iconst 3, 1) := by decide +kernel
theorem dX0_nameLengthIn_10 : decode cX0_nameLengthIn 10 = .ok (.iload_n 1, 1) := by decide +kernel
theorem dX0_nameLengthIn_11 : decode cX0_nameLengthIn 11 = .ok (.iadd, 1) := by decide +kernel
theorem dX0_nameLengthIn_12 : decode cX0_nameLengthIn 12 = .ok (.invokevirtual 73, 3) := by decide +kernel
theorem dX0_nameLengthIn_15 : decode cX0_nameLengthIn 15 = .ok (.ifCond .eq 9, 3) := by decide +kernel
theorem dX0_nameLengthIn_18 : decode cX0_nameLengthIn 18 = .ok (.iinc 1 1, 3) := by decide +kernel
theorem dX0_nameLengthIn_21 : decode cX0_nameLengthIn 21 = .ok (.goto (-19), 3) := by decide +kernel
theorem dX0_nameLengthIn_24 : decode cX0_nameLengthIn 24 = .ok (.iload_n 1, 1) := by decide +kernel
theorem dX0_nameLengthIn_25 : decode cX0_nameLengthIn 25 = .ok (.ireturn, 1) := by decide +kernel
set_option maxRecDepth 20000 in
theorem ggX0_numberIn_X6_get : GoodIn wsX0_numberIn wsX6_get := goodIn_r _ [5, 6, 7, 8] (by decide +kernel) (by decide +kernel)
set_option maxRecDepth 20000 in
theorem gX0_numberIn_X6_get : GoodIn wsX0_numberIn (wsV RX0 73 RX6 yX6_get wsX6_get) := goodIn_app (goodIn_of _ (by decide +kernel)) ggX0_numberIn_X6_get
theorem dX0_numberIn_0 : decode cX0_numberIn 0 = .ok (.iconst 0, 1) := by decide +kernel
theorem dX0_numberIn_1 : decode cX0_numberIn 1 = .ok (.istore_n 2, 1) := by decide +kernel
theorem dX0_numberIn_2 : decode cX0_numberIn 2 = .ok (.iload_n 1, 1) := by decide +kernel
theorem dX0_numberIn_3 : decode cX0_numberIn 3 = .ok (.istore_n 3, 1) := by decide +kernel
theorem dX0_numberIn_4 : decode cX0_numberIn 4 = .ok (.iload_n 3, 1) := by decide +kernel
theorem dX0_numberIn_5 : decode cX0_numberIn 5 = .ok (.iload_n 1, 1) := by decide +kernel
theorem dX0_numberIn_6 : decode cX0_numberIn 6 = .ok (.bipush 6, 2) := by decide +kernel
theorem dX0_numberIn_8 : decode cX0_numberIn 8 = .ok (.iadd, 1) := by decide +kernel
theorem dX0_numberIn_9 : decode cX0_numberIn 9 = .ok (.if_icmp .ge 42, 3) := by decide +kernel
theorem dX0_numberIn_12 : decode cX0_numberIn 12 = .ok (.aload_n 0, 1) := by decide +kernel
theorem dX0_numberIn_13 : decode cX0_numberIn 13 = .ok (.iload_n 3, 1) := by decide +kernel
theorem dX0_numberIn_14 : decode cX0_numberIn 14 = .ok (.invokevirtual 73, 3) := by decide +kernel
theorem dX0_numberIn_17 : decode cX0_numberIn 17 = .ok (.bipush 48, 2) := by decide +kernel
theorem dX0_numberIn_19 : decode cX0_numberIn 19 = .ok (.isub, 1) := by decide +kernel
theorem dX0_numberIn_20 : decode cX0_numberIn 20 = .ok (.istore 4, 2) := by decide +kernel
theorem dX0_numberIn_22 : decode cX0_numberIn 22 = .ok (.iload 4, 2) := by decide +kernel
theorem dX0_numberIn_24 : decode cX0_numberIn 24 = .ok (.ifCond .lt 27, 3) := by decide +kernel
theorem dX0_numberIn_27 : decode cX0_numberIn 27 = .ok (.iload 4, 2) := by decide +kernel
theorem dX0_numberIn_29 : decode cX0_numberIn 29 = .ok (.bipush 9, 2) := by decide +kernel
theorem dX0_numberIn_31 : decode cX0_numberIn 31 = .ok (.if_icmp .le 6, 3) := by decide +kernel
theorem dX0_numberIn_34 : decode cX0_numberIn 34 = .ok (.goto 17, 3) := by decide +kernel
theorem dX0_numberIn_37 : decode cX0_numberIn 37 = .ok (.iload_n 2, 1) := by decide +kernel
theorem dX0_numberIn_38 : decode cX0_numberIn 38 = .ok (.bipush 10, 2) := by decide +kernel
theorem dX0_numberIn_40 : decode cX0_numberIn 40 = .ok (.imul, 1) := by decide +kernel
theorem dX0_numberIn_41 : decode cX0_numberIn 41 = .ok (.iload 4, 2) := by decide +kernel
theorem dX0_numberIn_43 : decode cX0_numberIn 43 = .ok (.iadd, 1) := by decide +kernel
theorem dX0_numberIn_44 : decode cX0_numberIn 44 = .ok (.istore_n 2, 1) := by decide +kernel
theorem dX0_numberIn_45 : decode cX0_numberIn 45 = .ok (.iinc 3 1, 3) := by decide +kernel
theorem dX0_numberIn_48 : decode cX0_numberIn 48 = .ok (.goto (-44), 3) := by decide +kernel
theorem dX0_numberIn_51 : decode cX0_numberIn 51 = .ok (.iload_n 2, 1) := by decide +kernel
theorem dX0_numberIn_52 : decode cX0_numberIn 52 = .ok (.ireturn, 1) := by decide +kernel
set_option maxRecDepth 20000 in
theorem ggX0_takeData_X6_dataLength : GoodIn wsX0_takeData wsX6_dataLength := goodIn_r _ [8, 9, 10, 11, 7, 12, 13, 36, 37] (by decide +kernel) (by decide +kernel)
set_option maxRecDepth 20000 in
theorem gX0_takeData_X6_dataLength : GoodIn wsX0_takeData (wsV RX0 122 RX6 yX6_dataLength wsX6_dataLength) := goodIn_app (goodIn_of _ (by decide +kernel)) ggX0_takeData_X6_dataLength
set_option maxRecDepth 20000 in
theorem ggX0_takeData_X2_extendLast : GoodIn wsX0_takeData wsX2_extendLast := goodIn_r _ [18, 19, 20, 21, 22, 23, 24, 25, 26, 38, 39, 40, 41, 42, 43] (by decide +kernel) (by decide +kernel)
set_option maxRecDepth 20000 in
theorem gX0_takeData_X2_extendLast : GoodIn wsX0_takeData (wsV RX0 126 RX2 yX2_extendLast wsX2_extendLast) := goodIn_app (goodIn_of _ (by decide +kernel)) ggX0_takeData_X2_extendLast
theorem dX0_takeData_0 : decode cX0_takeData 0 = .ok (.aload_n 0, 1) := by decide +kernel
theorem dX0_takeData_1 : decode cX0_takeData 1 = .ok (.getfield 14, 3) := by decide +kernel
theorem dX0_takeData_4 : decode cX0_takeData 4 = .ok (.aload_n 1, 1) := by decide +kernel
theorem dX0_takeData_5 : decode cX0_takeData 5 = .ok (.getfield 107, 3) := by decide +kernel
theorem dX0_takeData_8 : decode cX0_takeData 8 = .ok (.iconst 3, 1) := by decide +kernel
theorem dX0_takeData_9 : decode cX0_takeData 9 = .ok (.aload_n 1, 1) := by decide +kernel
theorem dX0_takeData_10 : decode cX0_takeData 10 = .ok (.invokevirtual 122, 3) := by decide +kernel
theorem dX0_takeData_13 : decode cX0_takeData 13 = .ok (.invokevirtual 126, 3) := by decide +kernel
theorem dX0_takeData_16 : decode cX0_takeData 16 = .ok (.aload_n 0, 1) := by decide +kernel
theorem dX0_takeData_17 : decode cX0_takeData 17 = .ok (.aload_n 0, 1) := by decide +kernel
theorem dX0_takeData_18 : decode cX0_takeData 18 = .ok (.getfield 76, 3) := by decide +kernel
theorem dX0_takeData_21 : decode cX0_takeData 21 = .ok (.iconst 1, 1) := by decide +kernel
theorem dX0_takeData_22 : decode cX0_takeData 22 = .ok (.iadd, 1) := by decide +kernel
theorem dX0_takeData_23 : decode cX0_takeData 23 = .ok (.sipush 255, 3) := by decide +kernel
theorem dX0_takeData_26 : decode cX0_takeData 26 = .ok (.iand, 1) := by decide +kernel
theorem dX0_takeData_27 : decode cX0_takeData 27 = .ok (.putfield 76, 3) := by decide +kernel
theorem dX0_takeData_30 : decode cX0_takeData 30 = .ok (.return_, 1) := by decide +kernel
set_option maxRecDepth 20000 in
theorem ggX0_closeFile_X2_cutLast : GoodIn wsX0_closeFile wsX2_cutLast := goodIn_r _ [12, 13, 14, 41, 42, 43, 44, 45, 46] (by decide +kernel) (by decide +kernel)
set_option maxRecDepth 20000 in
theorem gX0_closeFile_X2_cutLast : GoodIn wsX0_closeFile (wsV RX0 129 RX2 yX2_cutLast wsX2_cutLast) := goodIn_app (goodIn_of _ (by decide +kernel)) ggX0_closeFile_X2_cutLast
set_option maxRecDepth 20000 in
theorem ggX0_closeFile_X0_expectHead : GoodIn wsX0_closeFile wsX0_expectHead := goodIn_r _ [19, 20, 21, 22, 23, 24, 25, 26, 27, 28, 29, 30] (by decide +kernel) (by decide +kernel)
set_option maxRecDepth 20000 in
theorem gX0_closeFile_X0_expectHead : GoodIn wsX0_closeFile (wsV RX0 34 RX0 yX0_expectHead wsX0_expectHead) := goodIn_app (goodIn_of _ (by decide +kernel)) ggX0_closeFile_X0_expectHead
theorem dX0_closeFile_0 : decode cX0_closeFile 0 = .ok (.aload_n 0, 1) := by decide +kernel
theorem dX0_closeFile_1 : decode cX0_closeFile 1 = .ok (.getfield 43, 3) := by decide +kernel
theorem dX0_closeFile_4 : decode cX0_closeFile 4 = .ok (.iconst 3, 1) := by decide +kernel
theorem dX0_closeFile_5 : decode cX0_closeFile 5 = .ok (.if_icmp .ne 26, 3) := by decide +kernel
theorem dX0_closeFile_8 : decode cX0_closeFile 8 = .ok (.aload_n 0, 1) := by decide +kernel
theorem dX0_closeFile_9 : decode cX0_closeFile 9 = .ok (.getfield 14, 3) := by decide +kernel
theorem dX0_closeFile_12 : decode cX0_closeFile 12 = .ok (.aload_n 0, 1) := by decide +kernel
theorem dX0_closeFile_13 : decode cX0_closeFile 13 = .ok (.getfield 119, 3) := by decide +kernel
theorem dX0_closeFile_16 : decode cX0_closeFile 16 = .ok (.invokevirtual 129, 3) := by decide +kernel
theorem dX0_closeFile_19 : decode cX0_closeFile 19 = .ok (.aload_n 0, 1) := by decide +kernel
theorem dX0_closeFile_20 : decode cX0_closeFile 20 = .ok (.iconst 0, 1) := by decide +kernel
theorem dX0_closeFile_21 : decode cX0_closeFile 21 = .ok (.putfield 31, 3) := by decide +kernel
theorem dX0_closeFile_24 : decode cX0_closeFile 24 = .ok (.aload_n 0, 1) := by decide +kernel
theorem dX0_closeFile_25 : decode cX0_closeFile 25 = .ok (.invokevirtual 34, 3) := by decide +kernel
theorem dX0_closeFile_28 : decode cX0_closeFile 28 = .ok (.goto 8, 3) := by decide +kernel
theorem dX0_closeFile_31 : decode cX0_closeFile 31 = .ok (.aload_n 0, 1) := by decide +kernel
theorem dX0_closeFile_32 : decode cX0_closeFile 32 = .ok (.iconst 1, 1) := by decide +kernel
theorem dX0_closeFile_33 : decode cX0_closeFile 33 = .ok (.putfield 104, 3) := by decide +kernel
theorem dX0_closeFile_36 : decode cX0_closeFile 36 = .ok (.return_, 1) := by decide +kernel
theorem dX0_expectHead_0 : decode cX0_expectHead 0 = .ok (.aload_n 0, 1) := by decide +kernel
theorem dX0_expectHead_1 : decode cX0_expectHead 1 = .ok (.iconst 0, 1) := by decide +kernel
theorem dX0_expectHead_2 : decode cX0_expectHead 2 = .ok (.putfield 76, 3) := by decide +kernel
theorem dX0_expectHead_5 : decode cX0_expectHead 5 = .ok (.aload_n 0, 1) := by decide +kernel
theorem dX0_expectHead_6 : decode cX0_expectHead 6 = .ok (.iconst 1, 1) := by decide +kernel
theorem dX0_expectHead_7 : decode cX0_expectHead 7 = .ok (.putfield 79, 3) := by decide +kernel
theorem dX0_expectHead_10 : decode cX0_expectHead 10 = .ok (.return_, 1) := by decide +kernel
theorem dX0_expectBlocks_0 : decode cX0_expectBlocks 0 = .ok (.aload_n 0, 1) := by decide +kernel
theorem dX0_expectBlocks_1 : decode cX0_expectBlocks 1 = .ok (.iconst 1, 1) := by decide +kernel
theorem dX0_expectBlocks_2 : decode cX0_expectBlocks 2 = .ok (.putfield 76, 3) := by decide +kernel
theorem dX0_expectBlocks_5 : decode cX0_expectBlocks 5 = .ok (.aload_n 0, 1) := by decide +kernel
theorem dX0_expectBlocks_6 : decode cX0_expectBlocks 6 = .ok (.iconst 0, 1) := by decide +kernel
theorem dX0_expectBlocks_7 : decode cX0_expectBlocks 7 = .ok (.putfield 79, 3) := by decide +kernel
theorem dX0_expectBlocks_10 : decode cX0_expectBlocks 10 = .ok (.return_, 1) := by decide +kernel
set_option maxRecDepth 20000 in
theorem ggX1_init_X3_init : GoodIn wsX1_init wsX3_init := goodIn_r _ [9, 10, 11, 12] (by decide +kernel) (by decide +kernel)
set_option maxRecDepth 20000 in
theorem gX1_init_X3_init_n3 : GoodIn wsX1_init (wsX3_init) := ggX1_init_X3_init
set_option maxRecDepth 20000 in
theorem ggX1_init_X2_init : GoodIn wsX1_init wsX2_init := goodIn_r _ [15, 16, 11, 12, 17, 18, 19, 20, 21, 22, 23, 24, 25, 26, 27, 28, 29] (by decide +kernel) (by decide +kernel)
set_option maxRecDepth 20000 in
theorem gX1_init_X2_init : GoodIn wsX1_init (wsX2_init) := ggX1_init_X2_init
theorem dX1_init_0 : decode cX1_init 0 = .ok (.aload_n 0, 1) := by decide +kernel
theorem dX1_init_1 : decode cX1_init 1 = .ok (.invokespecial 3, 3) := by decide +kernel
theorem dX1_init_4 : decode cX1_init 4 = .ok (.aload_n 0, 1) := by decide +kernel
theorem dX1_init_5 : decode cX1_init 5 = .ok (.new 9, 3) := by decide +kernel
theorem dX1_init_8 : decode cX1_init 8 = .ok (.dup, 1) := by decide +kernel
theorem dX1_init_9 : decode cX1_init 9 = .ok (.sipush 24000, 3) := by decide +kernel
theorem dX1_init_12 : decode cX1_init 12 = .ok (.invokespecial 11, 3) := by decide +kernel
theorem dX1_init_15 : decode cX1_init 15 = .ok (.putfield 14, 3) := by decide +kernel
theorem dX1_init_18 : decode cX1_init 18 = .ok (.aload_n 0, 1) := by decide +kernel
theorem dX1_init_19 : decode cX1_init 19 = .ok (.getstatic 20, 3) := by decide +kernel
theorem dX1_init_22 : decode cX1_init 22 = .ok (.putfield 26, 3) := by decide +kernel
theorem dX1_init_25 : decode cX1_init 25 = .ok (.return_, 1) := by decide +kernel
set_option maxRecDepth 20000 in
theorem ggX1_prepare_X3_startWork : GoodIn wsX1_prepare wsX3_startWork := goodIn_r _ [10, 11, 12, 13, 45, 46, 47, 48, 49, 50, 51, 52, 53, 35, 36, 37, 38, 39, 40, 41, 42, 43, 44] (by decide +kernel) (by decide +kernel)
set_option maxRecDepth 20000 in
theorem gX1_prepare_X3_startWork_u29X1 : GoodIn wsX1_prepare (va_wsU RX1 29 RX1 "BatchTransfer$Side" ⟨"BatchTransfer$Sender", "startWork", "(I)V"⟩ yX3_startWork wsX3_startWork) := goodIn_app (goodIn_of _ (by decide +kernel)) ggX1_prepare_X3_startWork
set_option maxRecDepth 20000 in
theorem ggX1_prepare_X1_goIntoFile : GoodIn wsX1_prepare wsX1_goIntoFile := goodIn_r _ [18, 19, 2, 20, 21, 22, 23, 24, 25, 26, 27, 28, 4, 29, 30, 31, 32, 33, 34, 35, 36, 37, 38, 39, 40, 41, 42, 43, 44, 45, 46, 47, 48, 49, 50, 51, 52, 53, 54, 55, 56, 57, 58, 59] (by decide +kernel) (by decide +kernel)
set_option maxRecDepth 20000 in
theorem gX1_prepare_X1_goIntoFile : GoodIn wsX1_prepare (wsV RX1 40 RX1 yX1_goIntoFile wsX1_goIntoFile) := goodIn_app (goodIn_of _ (by decide +kernel)) ggX1_prepare_X1_goIntoFile
theorem dX1_prepare_0 : decode cX1_prepare 0 = .ok (.aload_n 0, 1) := by decide +kernel
theorem dX1_prepare_1 : decode cX1_prepare 1 = .ok (.iload_n 1, 1) := by decide +kernel
theorem dX1_prepare_2 : decode cX1_prepare 2 = .ok (.invokevirtual 29, 3) := by decide +kernel
theorem dX1_prepare_5 : decode cX1_prepare 5 = .ok (.aload_n 0, 1) := by decide +kernel
theorem dX1_prepare_6 : decode cX1_prepare 6 = .ok (.iconst 0, 1) := by decide +kernel
theorem dX1_prepare_7 : decode cX1_prepare 7 = .ok (.putfield 32, 3) := by decide +kernel
theorem dX1_prepare_10 : decode cX1_prepare 10 = .ok (.aload_n 0, 1) := by decide +kernel
theorem dX1_prepare_11 : decode cX1_prepare 11 = .ok (.iconst 0, 1) := by decide +kernel
theorem dX1_prepare_12 : decode cX1_prepare 12 = .ok (.putfield 36, 3) := by decide +kernel
theorem dX1_prepare_15 : decode cX1_prepare 15 = .ok (.iload_n 1, 1) := by decide +kernel
theorem dX1_prepare_16 : decode cX1_prepare 16 = .ok (.iconst 3, 1) := by decide +kernel
theorem dX1_prepare_17 : decode cX1_prepare 17 = .ok (.if_icmp .ne 13, 3) := by decide +kernel
theorem dX1_prepare_20 : decode cX1_prepare 20 = .ok (.aload_n 0, 1) := by decide +kernel
theorem dX1_prepare_21 : decode cX1_prepare 21 = .ok (.getstatic 20, 3) := by decide +kernel
theorem dX1_prepare_24 : decode cX1_prepare 24 = .ok (.putfield 26, 3) := by decide +kernel
theorem dX1_prepare_27 : decode cX1_prepare 27 = .ok (.goto 7, 3) := by decide +kernel
theorem dX1_prepare_30 : decode cX1_prepare 30 = .ok (.aload_n 0, 1) := by decide +kernel
theorem dX1_prepare_31 : decode cX1_prepare 31 = .ok (.invokevirtual 40, 3) := by decide +kernel
theorem dX1_prepare_34 : decode cX1_prepare 34 = .ok (.return_, 1) := by decide +kernel
set_option maxRecDepth 20000 in
theorem ggX1_answer_X7_askOf : GoodIn wsX1_answer wsX7_askOf := goodIn_r _ [8] (by decide +kernel) (by decide +kernel)
set_option maxRecDepth 20000 in
theorem gX1_answer_X7_askOf_n46 : GoodIn wsX1_answer (wsX7_askOf) := ggX1_answer_X7_askOf
set_option maxRecDepth 20000 in
theorem ggX1_answer_X6_isByte : GoodIn wsX1_answer wsX6_isByte := goodIn_r _ [13, 14, 15, 16, 17, 12, 18, 19, 146, 147] (by decide +kernel) (by decide +kernel)
set_option maxRecDepth 20000 in
theorem gX1_answer_X6_isByte : GoodIn wsX1_answer (wsV RX1 50 RX6 yX6_isByte wsX6_isByte) := goodIn_app (goodIn_of _ (by decide +kernel)) ggX1_answer_X6_isByte
set_option maxRecDepth 20000 in
theorem ggX1_answer_X1_putUnit : GoodIn wsX1_answer wsX1_putUnit := goodIn_r _ [24, 25, 26, 27, 28, 29, 30, 31, 32, 12, 33, 14, 34, 35, 36, 23, 37, 38, 39, 40, 41, 42, 43, 44, 45, 46, 47, 2, 3, 48, 49, 50, 51, 19, 52, 53, 54, 55, 56, 57, 58, 59, 60, 61, 62, 63, 64, 65, 66, 67, 68, 69, 70, 71, 72, 73, 74, 75, 76, 77, 78, 79, 80, 81, 82, 83, 84, 85, 86, 87, 88, 89, 90, 91, 92, 93, 137, 138, 139, 140, 141, 142, 143, 144, 145, 127, 128, 129, 130, 131, 132, 133, 134, 135, 136, 146, 147, 148, 149, 150, 151, 152, 153] (by decide +kernel) (by decide +kernel)
set_option maxRecDepth 20000 in
theorem gX1_answer_X1_putUnit : GoodIn wsX1_answer (wsV RX1 56 RX1 yX1_putUnit wsX1_putUnit) := goodIn_app (goodIn_of _ (by decide +kernel)) ggX1_answer_X1_putUnit
set_option maxRecDepth 20000 in
theorem ggX1_answer_X1_goToNextUnit : GoodIn wsX1_answer wsX1_goToNextUnit := goodIn_r _ [97, 27, 28, 29, 98, 99, 100, 23, 101, 38, 39, 25, 26, 78, 102, 80, 47, 81, 103, 52, 53, 54, 55, 56, 57, 104, 105, 106, 107, 82, 83, 84, 85, 86, 87, 88, 89, 2, 3, 108, 109, 110, 111, 127, 128, 129, 130, 131, 132, 133, 134, 135, 136, 137, 138, 139, 140, 141, 142, 143, 144, 145, 148, 149, 150, 151, 152, 153] (by decide +kernel) (by decide +kernel)
set_option maxRecDepth 20000 in
theorem gX1_answer_X1_goToNextUnit : GoodIn wsX1_answer (wsV RX1 63 RX1 yX1_goToNextUnit wsX1_goToNextUnit) := goodIn_app (goodIn_of _ (by decide +kernel)) ggX1_answer_X1_goToNextUnit
set_option maxRecDepth 20000 in
theorem ggX1_answer_X3_bearsMiss : GoodIn wsX1_answer wsX3_bearsMiss := goodIn_r _ [117, 118, 119, 120, 121, 122, 116, 123, 124, 125, 91, 92, 12, 93, 19, 14, 126, 137, 138, 139, 140, 141, 142, 143, 144, 145, 127, 128, 129, 130, 131, 132, 133, 134, 135, 136, 146, 147] (by decide +kernel) (by decide +kernel)
set_option maxRecDepth 20000 in
theorem gX1_answer_X3_bearsMiss_u66X1 : GoodIn wsX1_answer (va_wsU RX1 66 RX1 "BatchTransfer$Side" ⟨"BatchTransfer$Sender", "bearsMiss", "(LBatchTransfer$Wire;)Z"⟩ yX3_bearsMiss wsX3_bearsMiss) := goodIn_app (goodIn_of _ (by decide +kernel)) ggX1_answer_X3_bearsMiss
set_option maxRecDepth 20000 in
theorem ggX1_answer_X6_putByte : GoodIn wsX1_answer wsX6_putByte := goodIn_r _ [93, 19, 14, 146, 147] (by decide +kernel) (by decide +kernel)
set_option maxRecDepth 20000 in
theorem gX1_answer_X6_putByte : GoodIn wsX1_answer (wsV RX1 70 RX6 yX6_putByte wsX6_putByte) := goodIn_app (goodIn_of _ (by decide +kernel)) ggX1_answer_X6_putByte
theorem dX1_answer_0 : decode cX1_answer 0 = .ok (.aload_n 0, 1) := by decide +kernel
theorem dX1_answer_1 : decode cX1_answer 1 = .ok (.getfield 32, 3) := by decide +kernel
theorem dX1_answer_4 : decode cX1_answer 4 = .ok (.ifCond .ne 30, 3) := by decide +kernel
theorem dX1_answer_7 : decode cX1_answer 7 = .ok (.aload_n 1, 1) := by decide +kernel
theorem dX1_answer_8 : decode cX1_answer 8 = .ok (.aload_n 0, 1) := by decide +kernel
theorem dX1_answer_9 : decode cX1_answer 9 = .ok (.getfield 43, 3) := by decide +kernel
theorem dX1_answer_12 : decode cX1_answer 12 = .ok (.invokestatic 46, 3) := by decide +kernel
theorem dX1_answer_15 : decode cX1_answer 15 = .ok (.invokevirtual 50, 3) := by decide +kernel
theorem dX1_answer_18 : decode cX1_answer 18 = .ok (.ifCond .eq 16, 3) := by decide +kernel
theorem dX1_answer_21 : decode cX1_answer 21 = .ok (.aload_n 0, 1) := by decide +kernel
theorem dX1_answer_22 : decode cX1_answer 22 = .ok (.iconst 1, 1) := by decide +kernel
theorem dX1_answer_23 : decode cX1_answer 23 = .ok (.putfield 32, 3) := by decide +kernel
theorem dX1_answer_26 : decode cX1_answer 26 = .ok (.aload_n 0, 1) := by decide +kernel
theorem dX1_answer_27 : decode cX1_answer 27 = .ok (.aload_n 1, 1) := by decide +kernel
theorem dX1_answer_28 : decode cX1_answer 28 = .ok (.invokevirtual 56, 3) := by decide +kernel
theorem dX1_answer_31 : decode cX1_answer 31 = .ok (.goto 64, 3) := by decide +kernel
theorem dX1_answer_34 : decode cX1_answer 34 = .ok (.aload_n 0, 1) := by decide +kernel
theorem dX1_answer_35 : decode cX1_answer 35 = .ok (.getfield 32, 3) := by decide +kernel
theorem dX1_answer_38 : decode cX1_answer 38 = .ok (.ifCond .eq 29, 3) := by decide +kernel
theorem dX1_answer_41 : decode cX1_answer 41 = .ok (.aload_n 1, 1) := by decide +kernel
theorem dX1_answer_42 : decode cX1_answer 42 = .ok (.bipush 6, 2) := by decide +kernel
theorem dX1_answer_44 : decode cX1_answer 44 = .ok (.invokevirtual 50, 3) := by decide +kernel
theorem dX1_answer_47 : decode cX1_answer 47 = .ok (.ifCond .eq 20, 3) := by decide +kernel
theorem dX1_answer_50 : decode cX1_answer 50 = .ok (.aload_n 0, 1) := by decide +kernel
theorem dX1_answer_51 : decode cX1_answer 51 = .ok (.iconst 0, 1) := by decide +kernel
theorem dX1_answer_52 : decode cX1_answer 52 = .ok (.putfield 60, 3) := by decide +kernel
theorem dX1_answer_55 : decode cX1_answer 55 = .ok (.aload_n 0, 1) := by decide +kernel
theorem dX1_answer_56 : decode cX1_answer 56 = .ok (.invokevirtual 63, 3) := by decide +kernel
theorem dX1_answer_59 : decode cX1_answer 59 = .ok (.aload_n 0, 1) := by decide +kernel
theorem dX1_answer_60 : decode cX1_answer 60 = .ok (.aload_n 1, 1) := by decide +kernel
theorem dX1_answer_61 : decode cX1_answer 61 = .ok (.invokevirtual 56, 3) := by decide +kernel
theorem dX1_answer_64 : decode cX1_answer 64 = .ok (.goto 31, 3) := by decide +kernel
theorem dX1_answer_67 : decode cX1_answer 67 = .ok (.aload_n 0, 1) := by decide +kernel
theorem dX1_answer_68 : decode cX1_answer 68 = .ok (.aload_n 1, 1) := by decide +kernel
theorem dX1_answer_69 : decode cX1_answer 69 = .ok (.invokevirtual 66, 3) := by decide +kernel
theorem dX1_answer_72 : decode cX1_answer 72 = .ok (.ifCond .eq 23, 3) := by decide +kernel
theorem dX1_answer_75 : decode cX1_answer 75 = .ok (.aload_n 0, 1) := by decide +kernel
theorem dX1_answer_76 : decode cX1_answer 76 = .ok (.getfield 32, 3) := by decide +kernel
theorem dX1_answer_79 : decode cX1_answer 79 = .ok (.ifCond .eq 11, 3) := by decide +kernel
theorem dX1_answer_82 : decode cX1_answer 82 = .ok (.aload_n 0, 1) := by decide +kernel
theorem dX1_answer_83 : decode cX1_answer 83 = .ok (.aload_n 1, 1) := by decide +kernel
theorem dX1_answer_84 : decode cX1_answer 84 = .ok (.invokevirtual 56, 3) := by decide +kernel
theorem dX1_answer_87 : decode cX1_answer 87 = .ok (.goto 8, 3) := by decide +kernel
theorem dX1_answer_90 : decode cX1_answer 90 = .ok (.aload_n 1, 1) := by decide +kernel
theorem dX1_answer_91 : decode cX1_answer 91 = .ok (.iconst 0, 1) := by decide +kernel
theorem dX1_answer_92 : decode cX1_answer 92 = .ok (.invokevirtual 70, 3) := by decide +kernel
theorem dX1_answer_95 : decode cX1_answer 95 = .ok (.return_, 1) := by decide +kernel
set_option maxRecDepth 20000 in
theorem ggX1_goToNextUnit_X1_goIntoFile : GoodIn wsX1_goToNextUnit wsX1_goIntoFile := goodIn_r _ [8, 9, 10, 11, 12, 13, 14, 15, 16, 17, 3, 18, 1, 19, 20, 21, 22, 23, 24, 43, 44, 45, 46, 47, 48, 49, 50, 51, 52, 53, 54, 55, 56, 57, 58, 59, 60, 61, 62, 63, 64, 65, 66, 67] (by decide +kernel) (by decide +kernel)
set_option maxRecDepth 20000 in
theorem gX1_goToNextUnit_X1_goIntoFile : GoodIn wsX1_goToNextUnit (wsV RX1 40 RX1 yX1_goIntoFile wsX1_goIntoFile) := goodIn_app (goodIn_of _ (by decide +kernel)) ggX1_goToNextUnit_X1_goIntoFile
set_option maxRecDepth 20000 in
theorem ggX1_goToNextUnit_X1_goBehindBlock : GoodIn wsX1_goToNextUnit wsX1_goBehindBlock := goodIn_r _ [28, 17, 29, 30, 31, 32, 13, 15, 3, 18, 1, 33, 34, 35, 7, 36, 37, 38, 43, 44, 45, 46, 47, 48, 49, 50, 51, 52, 53, 54, 55, 56, 57, 58, 59, 60, 61] (by decide +kernel) (by decide +kernel)
set_option maxRecDepth 20000 in
theorem gX1_goToNextUnit_X1_goBehindBlock : GoodIn wsX1_goToNextUnit (wsV RX1 76 RX1 yX1_goBehindBlock wsX1_goBehindBlock) := goodIn_app (goodIn_of _ (by decide +kernel)) ggX1_goToNextUnit_X1_goBehindBlock
set_option maxRecDepth 20000 in
theorem ggX1_goToNextUnit_X1_goBehindFile : GoodIn wsX1_goToNextUnit wsX1_goBehindFile := goodIn_r _ [42, 37, 38, 10, 2, 1, 11, 12, 53, 54, 55, 56, 57, 58, 59, 60, 61, 43, 44, 45, 46, 47, 48, 49, 50, 51, 52] (by decide +kernel) (by decide +kernel)
set_option maxRecDepth 20000 in
theorem gX1_goToNextUnit_X1_goBehindFile : GoodIn wsX1_goToNextUnit (wsV RX1 79 RX1 yX1_goBehindFile wsX1_goBehindFile) := goodIn_app (goodIn_of _ (by decide +kernel)) ggX1_goToNextUnit_X1_goBehindFile
theorem dX1_goToNextUnit_0 : decode cX1_goToNextUnit 0 = .ok (.aload_n 0, 1) := by decide +kernel
theorem dX1_goToNextUnit_1 : decode cX1_goToNextUnit 1 = .ok (.getfield 26, 3) := by decide +kernel
theorem dX1_goToNextUnit_4 : decode cX1_goToNextUnit 4 = .ok (.getstatic 20, 3) := by decide +kernel
theorem dX1_goToNextUnit_7 : decode cX1_goToNextUnit 7 = .ok (.if_acmp .ne 10, 3) := by decide +kernel
theorem dX1_goToNextUnit_10 : decode cX1_goToNextUnit 10 = .ok (.aload_n 0, 1) := by decide +kernel
theorem dX1_goToNextUnit_11 : decode cX1_goToNextUnit 11 = .ok (.invokevirtual 40, 3) := by decide +kernel
theorem dX1_goToNextUnit_14 : decode cX1_goToNextUnit 14 = .ok (.goto 24, 3) := by decide +kernel
theorem dX1_goToNextUnit_17 : decode cX1_goToNextUnit 17 = .ok (.aload_n 0, 1) := by decide +kernel
theorem dX1_goToNextUnit_18 : decode cX1_goToNextUnit 18 = .ok (.getfield 26, 3) := by decide +kernel
theorem dX1_goToNextUnit_21 : decode cX1_goToNextUnit 21 = .ok (.getstatic 73, 3) := by decide +kernel
theorem dX1_goToNextUnit_24 : decode cX1_goToNextUnit 24 = .ok (.if_acmp .ne 10, 3) := by decide +kernel
theorem dX1_goToNextUnit_27 : decode cX1_goToNextUnit 27 = .ok (.aload_n 0, 1) := by decide +kernel
theorem dX1_goToNextUnit_28 : decode cX1_goToNextUnit 28 = .ok (.invokevirtual 76, 3) := by decide +kernel
theorem dX1_goToNextUnit_31 : decode cX1_goToNextUnit 31 = .ok (.goto 7, 3) := by decide +kernel
theorem dX1_goToNextUnit_34 : decode cX1_goToNextUnit 34 = .ok (.aload_n 0, 1) := by decide +kernel
theorem dX1_goToNextUnit_35 : decode cX1_goToNextUnit 35 = .ok (.invokevirtual 79, 3) := by decide +kernel
theorem dX1_goToNextUnit_38 : decode cX1_goToNextUnit 38 = .ok (.return_, 1) := by decide +kernel
set_option maxRecDepth 20000 in
theorem ggX1_goIntoFile_X2_has : GoodIn wsX1_goIntoFile wsX2_has := goodIn_r _ [17, 18, 38, 39, 40, 41, 42, 43] (by decide +kernel) (by decide +kernel)
set_option maxRecDepth 20000 in
theorem gX1_goIntoFile_X2_has : GoodIn wsX1_goIntoFile (wsV RX1 82 RX2 yX2_has wsX2_has) := goodIn_app (goodIn_of _ (by decide +kernel)) ggX1_goIntoFile_X2_has
theorem dX1_goIntoFile_0 : decode cX1_goIntoFile 0 = .ok (.aload_n 0, 1) := by decide +kernel
theorem dX1_goIntoFile_1 : decode cX1_goIntoFile 1 = .ok (.getfield 14, 3) := by decide +kernel
theorem dX1_goIntoFile_4 : decode cX1_goIntoFile 4 = .ok (.aload_n 0, 1) := by decide +kernel
theorem dX1_goIntoFile_5 : decode cX1_goIntoFile 5 = .ok (.getfield 36, 3) := by decide +kernel
theorem dX1_goIntoFile_8 : decode cX1_goIntoFile 8 = .ok (.invokevirtual 82, 3) := by decide +kernel
theorem dX1_goIntoFile_11 : decode cX1_goIntoFile 11 = .ok (.ifCond .ne 9, 3) := by decide +kernel
theorem dX1_goIntoFile_14 : decode cX1_goIntoFile 14 = .ok (.aload_n 0, 1) := by decide +kernel
theorem dX1_goIntoFile_15 : decode cX1_goIntoFile 15 = .ok (.iconst 1, 1) := by decide +kernel
theorem dX1_goIntoFile_16 : decode cX1_goIntoFile 16 = .ok (.putfield 85, 3) := by decide +kernel
theorem dX1_goIntoFile_19 : decode cX1_goIntoFile 19 = .ok (.return_, 1) := by decide +kernel
theorem dX1_goIntoFile_20 : decode cX1_goIntoFile 20 = .ok (.aload_n 0, 1) := by decide +kernel
theorem dX1_goIntoFile_21 : decode cX1_goIntoFile 21 = .ok (.iconst 1, 1) := by decide +kernel
theorem dX1_goIntoFile_22 : decode cX1_goIntoFile 22 = .ok (.putfield 88, 3) := by decide +kernel
theorem dX1_goIntoFile_25 : decode cX1_goIntoFile 25 = .ok (.aload_n 0, 1) := by decide +kernel
theorem dX1_goIntoFile_26 : decode cX1_goIntoFile 26 = .ok (.aload_n 0, 1) := by decide +kernel
theorem dX1_goIntoFile_27 : decode cX1_goIntoFile 27 = .ok (.getfield 14, 3) := by decide +kernel
theorem dX1_goIntoFile_30 : decode cX1_goIntoFile 30 = .ok (.getfield 91, 3) := by decide +kernel
theorem dX1_goIntoFile_33 : decode cX1_goIntoFile 33 = .ok (.aload_n 0, 1) := by decide +kernel
theorem dX1_goIntoFile_34 : decode cX1_goIntoFile 34 = .ok (.getfield 36, 3) := by decide +kernel
theorem dX1_goIntoFile_37 : decode cX1_goIntoFile 37 = .ok (.iaload, 1) := by decide +kernel
theorem dX1_goIntoFile_38 : decode cX1_goIntoFile 38 = .ok (.putfield 95, 3) := by decide +kernel
theorem dX1_goIntoFile_41 : decode cX1_goIntoFile 41 = .ok (.aload_n 0, 1) := by decide +kernel
theorem dX1_goIntoFile_42 : decode cX1_goIntoFile 42 = .ok (.aload_n 0, 1) := by decide +kernel
theorem dX1_goIntoFile_43 : decode cX1_goIntoFile 43 = .ok (.getfield 14, 3) := by decide +kernel
theorem dX1_goIntoFile_46 : decode cX1_goIntoFile 46 = .ok (.getfield 98, 3) := by decide +kernel
theorem dX1_goIntoFile_49 : decode cX1_goIntoFile 49 = .ok (.aload_n 0, 1) := by decide +kernel
theorem dX1_goIntoFile_50 : decode cX1_goIntoFile 50 = .ok (.getfield 36, 3) := by decide +kernel
theorem dX1_goIntoFile_53 : decode cX1_goIntoFile 53 = .ok (.iaload, 1) := by decide +kernel
theorem dX1_goIntoFile_54 : decode cX1_goIntoFile 54 = .ok (.putfield 101, 3) := by decide +kernel
theorem dX1_goIntoFile_57 : decode cX1_goIntoFile 57 = .ok (.aload_n 0, 1) := by decide +kernel
theorem dX1_goIntoFile_58 : decode cX1_goIntoFile 58 = .ok (.aload_n 0, 1) := by decide +kernel
theorem dX1_goIntoFile_59 : decode cX1_goIntoFile 59 = .ok (.getfield 101, 3) := by decide +kernel
theorem dX1_goIntoFile_62 : decode cX1_goIntoFile 62 = .ok (.ifCond .le 9, 3) := by decide +kernel
theorem dX1_goIntoFile_65 : decode cX1_goIntoFile 65 = .ok (.getstatic 73, 3) := by decide +kernel
theorem dX1_goIntoFile_68 : decode cX1_goIntoFile 68 = .ok (.goto 6, 3) := by decide +kernel
theorem dX1_goIntoFile_71 : decode cX1_goIntoFile 71 = .ok (.getstatic 104, 3) := by decide +kernel
theorem dX1_goIntoFile_74 : decode cX1_goIntoFile 74 = .ok (.putfield 26, 3) := by decide +kernel
theorem dX1_goIntoFile_77 : decode cX1_goIntoFile 77 = .ok (.return_, 1) := by decide +kernel
set_option maxRecDepth 20000 in
theorem ggX1_goBehindBlock_X1_blockLength : GoodIn wsX1_goBehindBlock wsX1_blockLength := goodIn_r _ [15, 16, 17, 1, 28, 29, 30, 31, 32, 33, 34, 35, 36, 18, 19, 20, 21, 22, 23, 24, 25, 26, 27] (by decide +kernel) (by decide +kernel)
set_option maxRecDepth 20000 in
theorem gX1_goBehindBlock_X1_blockLength : GoodIn wsX1_goBehindBlock (wsV RX1 107 RX1 yX1_blockLength wsX1_blockLength) := goodIn_app (goodIn_of _ (by decide +kernel)) ggX1_goBehindBlock_X1_blockLength
theorem dX1_goBehindBlock_0 : decode cX1_goBehindBlock 0 = .ok (.aload_n 0, 1) := by decide +kernel
theorem dX1_goBehindBlock_1 : decode cX1_goBehindBlock 1 = .ok (.invokevirtual 107, 3) := by decide +kernel
theorem dX1_goBehindBlock_4 : decode cX1_goBehindBlock 4 = .ok (.aload_n 0, 1) := by decide +kernel
theorem dX1_goBehindBlock_5 : decode cX1_goBehindBlock 5 = .ok (.getfield 101, 3) := by decide +kernel
theorem dX1_goBehindBlock_8 : decode cX1_goBehindBlock 8 = .ok (.invokestatic 111, 3) := by decide +kernel
theorem dX1_goBehindBlock_11 : decode cX1_goBehindBlock 11 = .ok (.istore_n 1, 1) := by decide +kernel
theorem dX1_goBehindBlock_12 : decode cX1_goBehindBlock 12 = .ok (.aload_n 0, 1) := by decide +kernel
theorem dX1_goBehindBlock_13 : decode cX1_goBehindBlock 13 = .ok (.dup, 1) := by decide +kernel
theorem dX1_goBehindBlock_14 : decode cX1_goBehindBlock 14 = .ok (.getfield 88, 3) := by decide +kernel
theorem dX1_goBehindBlock_17 : decode cX1_goBehindBlock 17 = .ok (.iconst 1, 1) := by decide +kernel
theorem dX1_goBehindBlock_18 : decode cX1_goBehindBlock 18 = .ok (.iadd, 1) := by decide +kernel
theorem dX1_goBehindBlock_19 : decode cX1_goBehindBlock 19 = .ok (.putfield 88, 3) := by decide +kernel
theorem dX1_goBehindBlock_22 : decode cX1_goBehindBlock 22 = .ok (.aload_n 0, 1) := by decide +kernel
theorem dX1_goBehindBlock_23 : decode cX1_goBehindBlock 23 = .ok (.dup, 1) := by decide +kernel
theorem dX1_goBehindBlock_24 : decode cX1_goBehindBlock 24 = .ok (.getfield 95, 3) := by decide +kernel
theorem dX1_goBehindBlock_27 : decode cX1_goBehindBlock 27 = .ok (.iload_n 1, 1) := by decide +kernel
theorem dX1_goBehindBlock_28 : decode cX1_goBehindBlock 28 = .ok (.iadd, 1) := by decide +kernel
theorem dX1_goBehindBlock_29 : decode cX1_goBehindBlock 29 = .ok (.putfield 95, 3) := by decide +kernel
theorem dX1_goBehindBlock_32 : decode cX1_goBehindBlock 32 = .ok (.aload_n 0, 1) := by decide +kernel
theorem dX1_goBehindBlock_33 : decode cX1_goBehindBlock 33 = .ok (.dup, 1) := by decide +kernel
theorem dX1_goBehindBlock_34 : decode cX1_goBehindBlock 34 = .ok (.getfield 101, 3) := by decide +kernel
theorem dX1_goBehindBlock_37 : decode cX1_goBehindBlock 37 = .ok (.iload_n 1, 1) := by decide +kernel
theorem dX1_goBehindBlock_38 : decode cX1_goBehindBlock 38 = .ok (.isub, 1) := by decide +kernel
theorem dX1_goBehindBlock_39 : decode cX1_goBehindBlock 39 = .ok (.putfield 101, 3) := by decide +kernel
theorem dX1_goBehindBlock_42 : decode cX1_goBehindBlock 42 = .ok (.aload_n 0, 1) := by decide +kernel
theorem dX1_goBehindBlock_43 : decode cX1_goBehindBlock 43 = .ok (.aload_n 0, 1) := by decide +kernel
theorem dX1_goBehindBlock_44 : decode cX1_goBehindBlock 44 = .ok (.getfield 101, 3) := by decide +kernel
theorem dX1_goBehindBlock_47 : decode cX1_goBehindBlock 47 = .ok (.ifCond .le 9, 3) := by decide +kernel
theorem dX1_goBehindBlock_50 : decode cX1_goBehindBlock 50 = .ok (.getstatic 73, 3) := by decide +kernel
theorem dX1_goBehindBlock_53 : decode cX1_goBehindBlock 53 = .ok (.goto 6, 3) := by decide +kernel
theorem dX1_goBehindBlock_56 : decode cX1_goBehindBlock 56 = .ok (.getstatic 104, 3) := by decide +kernel
theorem dX1_goBehindBlock_59 : decode cX1_goBehindBlock 59 = .ok (.putfield 26, 3) := by decide +kernel
theorem dX1_goBehindBlock_62 : decode cX1_goBehindBlock 62 = .ok (.return_, 1) := by decide +kernel
theorem dX1_goBehindFile_0 : decode cX1_goBehindFile 0 = .ok (.aload_n 0, 1) := by decide +kernel
theorem dX1_goBehindFile_1 : decode cX1_goBehindFile 1 = .ok (.getfield 43, 3) := by decide +kernel
theorem dX1_goBehindFile_4 : decode cX1_goBehindFile 4 = .ok (.iconst 3, 1) := by decide +kernel
theorem dX1_goBehindFile_5 : decode cX1_goBehindFile 5 = .ok (.if_icmp .ne 23, 3) := by decide +kernel
theorem dX1_goBehindFile_8 : decode cX1_goBehindFile 8 = .ok (.aload_n 0, 1) := by decide +kernel
theorem dX1_goBehindFile_9 : decode cX1_goBehindFile 9 = .ok (.dup, 1) := by decide +kernel
theorem dX1_goBehindFile_10 : decode cX1_goBehindFile 10 = .ok (.getfield 36, 3) := by decide +kernel
theorem dX1_goBehindFile_13 : decode cX1_goBehindFile 13 = .ok (.iconst 1, 1) := by decide +kernel
theorem dX1_goBehindFile_14 : decode cX1_goBehindFile 14 = .ok (.iadd, 1) := by decide +kernel
theorem dX1_goBehindFile_15 : decode cX1_goBehindFile 15 = .ok (.putfield 36, 3) := by decide +kernel
theorem dX1_goBehindFile_18 : decode cX1_goBehindFile 18 = .ok (.aload_n 0, 1) := by decide +kernel
theorem dX1_goBehindFile_19 : decode cX1_goBehindFile 19 = .ok (.getstatic 20, 3) := by decide +kernel
theorem dX1_goBehindFile_22 : decode cX1_goBehindFile 22 = .ok (.putfield 26, 3) := by decide +kernel
theorem dX1_goBehindFile_25 : decode cX1_goBehindFile 25 = .ok (.goto 8, 3) := by decide +kernel
theorem dX1_goBehindFile_28 : decode cX1_goBehindFile 28 = .ok (.aload_n 0, 1) := by decide +kernel
theorem dX1_goBehindFile_29 : decode cX1_goBehindFile 29 = .ok (.iconst 1, 1) := by decide +kernel
theorem dX1_goBehindFile_30 : decode cX1_goBehindFile 30 = .ok (.putfield 85, 3) := by decide +kernel
theorem dX1_goBehindFile_33 : decode cX1_goBehindFile 33 = .ok (.return_, 1) := by decide +kernel
set_option maxRecDepth 20000 in
theorem ggX1_putUnit_X6_empty : GoodIn wsX1_putUnit wsX6_empty := goodIn_r _ [10, 11, 95, 96] (by decide +kernel) (by decide +kernel)
set_option maxRecDepth 20000 in
theorem gX1_putUnit_X6_empty : GoodIn wsX1_putUnit (wsV RX1 117 RX6 yX6_empty wsX6_empty) := goodIn_app (goodIn_of _ (by decide +kernel)) ggX1_putUnit_X6_empty
set_option maxRecDepth 20000 in
theorem ggX1_putUnit_X1_putHead : GoodIn wsX1_putUnit wsX1_putHead := goodIn_r _ [16, 17, 18, 19, 20, 21, 22, 23, 24, 25, 26, 27, 28, 29, 30, 31, 9, 32, 33, 11, 34, 35, 36, 37, 38, 39, 40, 41, 15, 42, 43, 44, 45, 46, 47, 48, 49, 50, 51, 52, 53, 54, 55, 85, 86, 87, 88, 89, 90, 91, 92, 93, 94, 97, 98, 99, 100, 101, 102, 95, 96, 76, 77, 78, 79, 80, 81, 82, 83, 84] (by decide +kernel) (by decide +kernel)
set_option maxRecDepth 20000 in
theorem gX1_putUnit_X1_putHead : GoodIn wsX1_putUnit (wsV RX1 120 RX1 yX1_putHead wsX1_putHead) := goodIn_app (goodIn_of _ (by decide +kernel)) ggX1_putUnit_X1_putHead
set_option maxRecDepth 20000 in
theorem ggX1_putUnit_X1_putBlock : GoodIn wsX1_putUnit wsX1_putBlock := goodIn_r _ [59, 60, 17, 61, 62, 21, 63, 64, 65, 66, 67, 22, 23, 24, 25, 27, 28, 68, 69, 70, 15, 71, 29, 30, 31, 9, 32, 33, 11, 43, 44, 45, 46, 47, 48, 49, 50, 51, 52, 53, 54, 55, 85, 86, 87, 88, 89, 90, 91, 92, 93, 94, 97, 98, 99, 100, 101, 102, 95, 96, 76, 77, 78, 79, 80, 81, 82, 83, 84] (by decide +kernel) (by decide +kernel)
set_option maxRecDepth 20000 in
theorem gX1_putUnit_X1_putBlock : GoodIn wsX1_putUnit (wsV RX1 123 RX1 yX1_putBlock wsX1_putBlock) := goodIn_app (goodIn_of _ (by decide +kernel)) ggX1_putUnit_X1_putBlock
set_option maxRecDepth 20000 in
theorem ggX1_putUnit_X6_putByte : GoodIn wsX1_putUnit wsX6_putByte := goodIn_r _ [75, 33, 11, 95, 96] (by decide +kernel) (by decide +kernel)
set_option maxRecDepth 20000 in
theorem gX1_putUnit_X6_putByte : GoodIn wsX1_putUnit (wsV RX1 70 RX6 yX6_putByte wsX6_putByte) := goodIn_app (goodIn_of _ (by decide +kernel)) ggX1_putUnit_X6_putByte
theorem dX1_putUnit_0 : decode cX1_putUnit 0 = .ok (.aload_n 0, 1) := by decide +kernel
theorem dX1_putUnit_1 : decode cX1_putUnit 1 = .ok (.getfield 85, 3) := by decide +kernel
theorem dX1_putUnit_4 : decode cX1_putUnit 4 = .ok (.iconst 1, 1) := by decide +kernel
theorem dX1_putUnit_5 : decode cX1_putUnit 5 = .ok (.if_icmp .ne 10, 3) := by decide +kernel
theorem dX1_putUnit_8 : decode cX1_putUnit 8 = .ok (.aload_n 1, 1) := by decide +kernel
theorem dX1_putUnit_9 : decode cX1_putUnit 9 = .ok (.invokevirtual 117, 3) := by decide +kernel
theorem dX1_putUnit_12 : decode cX1_putUnit 12 = .ok (.goto 44, 3) := by decide +kernel
theorem dX1_putUnit_15 : decode cX1_putUnit 15 = .ok (.aload_n 0, 1) := by decide +kernel
theorem dX1_putUnit_16 : decode cX1_putUnit 16 = .ok (.getfield 26, 3) := by decide +kernel
theorem dX1_putUnit_19 : decode cX1_putUnit 19 = .ok (.getstatic 20, 3) := by decide +kernel
theorem dX1_putUnit_22 : decode cX1_putUnit 22 = .ok (.if_acmp .ne 11, 3) := by decide +kernel
theorem dX1_putUnit_25 : decode cX1_putUnit 25 = .ok (.aload_n 0, 1) := by decide +kernel
theorem dX1_putUnit_26 : decode cX1_putUnit 26 = .ok (.aload_n 1, 1) := by decide +kernel
theorem dX1_putUnit_27 : decode cX1_putUnit 27 = .ok (.invokevirtual 120, 3) := by decide +kernel
theorem dX1_putUnit_30 : decode cX1_putUnit 30 = .ok (.goto 26, 3) := by decide +kernel
theorem dX1_putUnit_33 : decode cX1_putUnit 33 = .ok (.aload_n 0, 1) := by decide +kernel
theorem dX1_putUnit_34 : decode cX1_putUnit 34 = .ok (.getfield 26, 3) := by decide +kernel
theorem dX1_putUnit_37 : decode cX1_putUnit 37 = .ok (.getstatic 73, 3) := by decide +kernel
theorem dX1_putUnit_40 : decode cX1_putUnit 40 = .ok (.if_acmp .ne 11, 3) := by decide +kernel
theorem dX1_putUnit_43 : decode cX1_putUnit 43 = .ok (.aload_n 0, 1) := by decide +kernel
theorem dX1_putUnit_44 : decode cX1_putUnit 44 = .ok (.aload_n 1, 1) := by decide +kernel
theorem dX1_putUnit_45 : decode cX1_putUnit 45 = .ok (.invokevirtual 123, 3) := by decide +kernel
theorem dX1_putUnit_48 : decode cX1_putUnit 48 = .ok (.goto 8, 3) := by decide +kernel
theorem dX1_putUnit_51 : decode cX1_putUnit 51 = .ok (.aload_n 1, 1) := by decide +kernel
theorem dX1_putUnit_52 : decode cX1_putUnit 52 = .ok (.iconst 4, 1) := by decide +kernel
theorem dX1_putUnit_53 : decode cX1_putUnit 53 = .ok (.invokevirtual 70, 3) := by decide +kernel
theorem dX1_putUnit_56 : decode cX1_putUnit 56 = .ok (.return_, 1) := by decide +kernel
set_option maxRecDepth 20000 in
theorem ggX1_putHead_X6_openBlock : GoodIn wsX1_putHead wsX6_openBlock := goodIn_r _ [17, 18, 19, 59, 60] (by decide +kernel) (by decide +kernel)
set_option maxRecDepth 20000 in
theorem gX1_putHead_X6_openBlock : GoodIn wsX1_putHead (wsV RX1 126 RX6 yX6_openBlock wsX6_openBlock) := goodIn_app (goodIn_of _ (by decide +kernel)) ggX1_putHead_X6_openBlock
set_option maxRecDepth 20000 in
theorem ggX1_putHead_X2_has : GoodIn wsX1_putHead wsX2_has := goodIn_r _ [24, 25, 53, 54, 55, 56, 57, 58] (by decide +kernel) (by decide +kernel)
set_option maxRecDepth 20000 in
theorem gX1_putHead_X2_has : GoodIn wsX1_putHead (wsV RX1 82 RX2 yX2_has wsX2_has) := goodIn_app (goodIn_of _ (by decide +kernel)) ggX1_putHead_X2_has
set_option maxRecDepth 20000 in
theorem ggX1_putHead_X1_putDigits : GoodIn wsX1_putHead wsX1_putDigits := goodIn_r _ [29, 5, 59, 60] (by decide +kernel) (by decide +kernel)
set_option maxRecDepth 20000 in
theorem gX1_putHead_X1_putDigits : GoodIn wsX1_putHead (va_wsS RX1 146 yX1_putDigits wsX1_putDigits) := goodIn_app (goodIn_of _ (by decide +kernel)) ggX1_putHead_X1_putDigits
set_option maxRecDepth 20000 in
theorem ggX1_putHead_X6_sealBlock : GoodIn wsX1_putHead wsX6_sealBlock := goodIn_r _ [33, 18, 19, 34, 35, 36, 16, 37, 38, 39, 40, 41, 42, 59, 60] (by decide +kernel) (by decide +kernel)
set_option maxRecDepth 20000 in
theorem gX1_putHead_X6_sealBlock : GoodIn wsX1_putHead (wsV RX1 150 RX6 yX6_sealBlock wsX6_sealBlock) := goodIn_app (goodIn_of _ (by decide +kernel)) ggX1_putHead_X6_sealBlock
theorem dX1_putHead_0 : decode cX1_putHead 0 = .ok (.aload_n 1, 1) := by decide +kernel
theorem dX1_putHead_1 : decode cX1_putHead 1 = .ok (.iconst 0, 1) := by decide +kernel
theorem dX1_putHead_2 : decode cX1_putHead 2 = .ok (.sipush 128, 3) := by decide +kernel
theorem dX1_putHead_5 : decode cX1_putHead 5 = .ok (.iconst 0, 1) := by decide +kernel
theorem dX1_putHead_6 : decode cX1_putHead 6 = .ok (.invokevirtual 126, 3) := by decide +kernel
theorem dX1_putHead_9 : decode cX1_putHead 9 = .ok (.aload_n 0, 1) := by decide +kernel
theorem dX1_putHead_10 : decode cX1_putHead 10 = .ok (.getfield 14, 3) := by decide +kernel
theorem dX1_putHead_13 : decode cX1_putHead 13 = .ok (.aload_n 0, 1) := by decide +kernel
theorem dX1_putHead_14 : decode cX1_putHead 14 = .ok (.getfield 36, 3) := by decide +kernel
theorem dX1_putHead_17 : decode cX1_putHead 17 = .ok (.invokevirtual 82, 3) := by decide +kernel
theorem dX1_putHead_20 : decode cX1_putHead 20 = .ok (.ifCond .eq 60, 3) := by decide +kernel
theorem dX1_putHead_23 : decode cX1_putHead 23 = .ok (.aload_n 0, 1) := by decide +kernel
theorem dX1_putHead_24 : decode cX1_putHead 24 = .ok (.getfield 14, 3) := by decide +kernel
theorem dX1_putHead_27 : decode cX1_putHead 27 = .ok (.getfield 130, 3) := by decide +kernel
theorem dX1_putHead_30 : decode cX1_putHead 30 = .ok (.aload_n 0, 1) := by decide +kernel
theorem dX1_putHead_31 : decode cX1_putHead 31 = .ok (.getfield 36, 3) := by decide +kernel
theorem dX1_putHead_34 : decode cX1_putHead 34 = .ok (.iaload, 1) := by decide +kernel
theorem dX1_putHead_35 : decode cX1_putHead 35 = .ok (.istore_n 2, 1) := by decide +kernel
theorem dX1_putHead_36 : decode cX1_putHead 36 = .ok (.aload_n 0, 1) := by decide +kernel
theorem dX1_putHead_37 : decode cX1_putHead 37 = .ok (.getfield 14, 3) := by decide +kernel
theorem dX1_putHead_40 : decode cX1_putHead 40 = .ok (.getfield 133, 3) := by decide +kernel
theorem dX1_putHead_43 : decode cX1_putHead 43 = .ok (.aload_n 0, 1) := by decide +kernel
theorem dX1_putHead_44 : decode cX1_putHead 44 = .ok (.getfield 36, 3) := by decide +kernel
theorem dX1_putHead_47 : decode cX1_putHead 47 = .ok (.bipush 12, 2) := by decide +kernel
theorem dX1_putHead_49 : decode cX1_putHead 49 = .ok (.imul, 1) := by decide +kernel
theorem dX1_putHead_50 : decode cX1_putHead 50 = .ok (.aload_n 1, 1) := by decide +kernel
theorem dX1_putHead_51 : decode cX1_putHead 51 = .ok (.getfield 137, 3) := by decide +kernel
theorem dX1_putHead_54 : decode cX1_putHead 54 = .ok (.iconst 3, 1) := by decide +kernel
theorem dX1_putHead_55 : decode cX1_putHead 55 = .ok (.iload_n 2, 1) := by decide +kernel
theorem dX1_putHead_56 : decode cX1_putHead 56 = .ok (.invokestatic 140, 3) := by decide +kernel
theorem dX1_putHead_59 : decode cX1_putHead 59 = .ok (.aload_n 1, 1) := by decide +kernel
theorem dX1_putHead_60 : decode cX1_putHead 60 = .ok (.iconst 3, 1) := by decide +kernel
theorem dX1_putHead_61 : decode cX1_putHead 61 = .ok (.iload_n 2, 1) := by decide +kernel
theorem dX1_putHead_62 : decode cX1_putHead 62 = .ok (.iadd, 1) := by decide +kernel
theorem dX1_putHead_63 : decode cX1_putHead 63 = .ok (.iconst 1, 1) := by decide +kernel
theorem dX1_putHead_64 : decode cX1_putHead 64 = .ok (.iadd, 1) := by decide +kernel
theorem dX1_putHead_65 : decode cX1_putHead 65 = .ok (.aload_n 0, 1) := by decide +kernel
theorem dX1_putHead_66 : decode cX1_putHead 66 = .ok (.getfield 14, 3) := by decide +kernel
theorem dX1_putHead_69 : decode cX1_putHead 69 = .ok (.getfield 98, 3) := by decide +kernel
theorem dX1_putHead_72 : decode cX1_putHead 72 = .ok (.aload_n 0, 1) := by decide +kernel
theorem dX1_putHead_73 : decode cX1_putHead 73 = .ok (.getfield 36, 3) := by decide +kernel
theorem dX1_putHead_76 : decode cX1_putHead 76 = .ok (.iaload, 1) := by decide +kernel
theorem dX1_putHead_77 : decode cX1_putHead 77 = .ok (.invokestatic 146, 3) := by decide +kernel
theorem dX1_putHead_80 : decode cX1_putHead 80 = .ok (.aload_n 1, 1) := by decide +kernel
theorem dX1_putHead_81 : decode cX1_putHead 81 = .ok (.aload_n 0, 1) := by decide +kernel
theorem dX1_putHead_82 : decode cX1_putHead 82 = .ok (.getfield 43, 3) := by decide +kernel
theorem dX1_putHead_85 : decode cX1_putHead 85 = .ok (.invokevirtual 150, 3) := by decide +kernel
theorem dX1_putHead_88 : decode cX1_putHead 88 = .ok (.return_, 1) := by decide +kernel
theorem dX1_putDigits_0 : decode cX1_putDigits 0 = .ok (.iload_n 1, 1) := by decide +kernel
theorem dX1_putDigits_1 : decode cX1_putDigits 1 = .ok (.istore_n 3, 1) := by decide +kernel
theorem dX1_putDigits_2 : decode cX1_putDigits 2 = .ok (.sipush 1000, 3) := by decide +kernel
theorem dX1_putDigits_5 : decode cX1_putDigits 5 = .ok (.istore 4, 2) := by decide +kernel
theorem dX1_putDigits_7 : decode cX1_putDigits 7 = .ok (.iload 4, 2) := by decide +kernel
theorem dX1_putDigits_9 : decode cX1_putDigits 9 = .ok (.iconst 1, 1) := by decide +kernel
theorem dX1_putDigits_10 : decode cX1_putDigits 10 = .ok (.if_icmp .lt 45, 3) := by decide +kernel
theorem dX1_putDigits_13 : decode cX1_putDigits 13 = .ok (.iload_n 2, 1) := by decide +kernel
theorem dX1_putDigits_14 : decode cX1_putDigits 14 = .ok (.iload 4, 2) := by decide +kernel
theorem dX1_putDigits_16 : decode cX1_putDigits 16 = .ok (.if_icmp .ge 9, 3) := by decide +kernel
theorem dX1_putDigits_19 : decode cX1_putDigits 19 = .ok (.iload 4, 2) := by decide +kernel
theorem dX1_putDigits_21 : decode cX1_putDigits 21 = .ok (.iconst 1, 1) := by decide +kernel
theorem dX1_putDigits_22 : decode cX1_putDigits 22 = .ok (.if_icmp .ne 23, 3) := by decide +kernel
theorem dX1_putDigits_25 : decode cX1_putDigits 25 = .ok (.aload_n 0, 1) := by decide +kernel
theorem dX1_putDigits_26 : decode cX1_putDigits 26 = .ok (.getfield 137, 3) := by decide +kernel
theorem dX1_putDigits_29 : decode cX1_putDigits 29 = .ok (.iload_n 3, 1) := by decide +kernel
theorem dX1_putDigits_30 : decode cX1_putDigits 30 = .ok (.bipush 48, 2) := by decide +kernel
theorem dX1_putDigits_32 : decode cX1_putDigits 32 = .ok (.iload_n 2, 1) := by decide +kernel
theorem dX1_putDigits_33 : decode cX1_putDigits 33 = .ok (.iload 4, 2) := by decide +kernel
theorem dX1_putDigits_35 : decode cX1_putDigits 35 = .ok (.idiv, 1) := by decide +kernel
theorem dX1_putDigits_36 : decode cX1_putDigits 36 = .ok (.bipush 10, 2) := by decide +kernel
theorem dX1_putDigits_38 : decode cX1_putDigits 38 = .ok (.irem, 1) := by decide +kernel
theorem dX1_putDigits_39 : decode cX1_putDigits 39 = .ok (.iadd, 1) := by decide +kernel
theorem dX1_putDigits_40 : decode cX1_putDigits 40 = .ok (.i2b, 1) := by decide +kernel
theorem dX1_putDigits_41 : decode cX1_putDigits 41 = .ok (.bastore, 1) := by decide +kernel
theorem dX1_putDigits_42 : decode cX1_putDigits 42 = .ok (.iinc 3 1, 3) := by decide +kernel
theorem dX1_putDigits_45 : decode cX1_putDigits 45 = .ok (.iload 4, 2) := by decide +kernel
theorem dX1_putDigits_47 : decode cX1_putDigits 47 = .ok (.bipush 10, 2) := by decide +kernel
theorem dX1_putDigits_49 : decode cX1_putDigits 49 = .ok (.idiv, 1) := by decide +kernel
theorem dX1_putDigits_50 : decode cX1_putDigits 50 = .ok (.istore 4, 2) := by decide +kernel
theorem dX1_putDigits_52 : decode cX1_putDigits 52 = .ok (.goto (-45), 3) := by decide +kernel
theorem dX1_putDigits_55 : decode cX1_putDigits 55 = .ok (.return_, 1) := by decide +kernel
set_option maxRecDepth 20000 in
theorem ggX1_putBlock_X1_blockLength : GoodIn wsX1_putBlock wsX1_blockLength := goodIn_r _ [21, 15, 16, 6, 60, 61, 62, 63, 64, 65, 66, 67, 68, 42, 43, 44, 45, 46, 47, 48, 49, 50, 51] (by decide +kernel) (by decide +kernel)
set_option maxRecDepth 20000 in
theorem gX1_putBlock_X1_blockLength : GoodIn wsX1_putBlock (wsV RX1 107 RX1 yX1_blockLength wsX1_blockLength) := goodIn_app (goodIn_of _ (by decide +kernel)) ggX1_putBlock_X1_blockLength
set_option maxRecDepth 20000 in
theorem ggX1_putBlock_X6_openBlock : GoodIn wsX1_putBlock wsX6_openBlock := goodIn_r _ [26, 27, 28, 58, 59] (by decide +kernel) (by decide +kernel)
set_option maxRecDepth 20000 in
theorem gX1_putBlock_X6_openBlock : GoodIn wsX1_putBlock (wsV RX1 126 RX6 yX6_openBlock wsX6_openBlock) := goodIn_app (goodIn_of _ (by decide +kernel)) ggX1_putBlock_X6_openBlock
set_option maxRecDepth 20000 in
theorem ggX1_putBlock_X6_sealBlock : GoodIn wsX1_putBlock wsX6_sealBlock := goodIn_r _ [32, 27, 28, 33, 34, 35, 25, 36, 37, 38, 39, 40, 41, 58, 59] (by decide +kernel) (by decide +kernel)
set_option maxRecDepth 20000 in
theorem gX1_putBlock_X6_sealBlock : GoodIn wsX1_putBlock (wsV RX1 150 RX6 yX6_sealBlock wsX6_sealBlock) := goodIn_app (goodIn_of _ (by decide +kernel)) ggX1_putBlock_X6_sealBlock
theorem dX1_putBlock_0 : decode cX1_putBlock 0 = .ok (.aload_n 0, 1) := by decide +kernel
theorem dX1_putBlock_1 : decode cX1_putBlock 1 = .ok (.invokevirtual 107, 3) := by decide +kernel
theorem dX1_putBlock_4 : decode cX1_putBlock 4 = .ok (.istore_n 2, 1) := by decide +kernel
theorem dX1_putBlock_5 : decode cX1_putBlock 5 = .ok (.aload_n 1, 1) := by decide +kernel
theorem dX1_putBlock_6 : decode cX1_putBlock 6 = .ok (.aload_n 0, 1) := by decide +kernel
theorem dX1_putBlock_7 : decode cX1_putBlock 7 = .ok (.getfield 88, 3) := by decide +kernel
theorem dX1_putBlock_10 : decode cX1_putBlock 10 = .ok (.iload_n 2, 1) := by decide +kernel
theorem dX1_putBlock_11 : decode cX1_putBlock 11 = .ok (.bipush 26, 2) := by decide +kernel
theorem dX1_putBlock_13 : decode cX1_putBlock 13 = .ok (.invokevirtual 126, 3) := by decide +kernel
theorem dX1_putBlock_16 : decode cX1_putBlock 16 = .ok (.aload_n 0, 1) := by decide +kernel
theorem dX1_putBlock_17 : decode cX1_putBlock 17 = .ok (.getfield 14, 3) := by decide +kernel
theorem dX1_putBlock_20 : decode cX1_putBlock 20 = .ok (.getfield 153, 3) := by decide +kernel
theorem dX1_putBlock_23 : decode cX1_putBlock 23 = .ok (.aload_n 0, 1) := by decide +kernel
theorem dX1_putBlock_24 : decode cX1_putBlock 24 = .ok (.getfield 95, 3) := by decide +kernel
theorem dX1_putBlock_27 : decode cX1_putBlock 27 = .ok (.aload_n 1, 1) := by decide +kernel
theorem dX1_putBlock_28 : decode cX1_putBlock 28 = .ok (.getfield 137, 3) := by decide +kernel
theorem dX1_putBlock_31 : decode cX1_putBlock 31 = .ok (.iconst 3, 1) := by decide +kernel
theorem dX1_putBlock_32 : decode cX1_putBlock 32 = .ok (.iload_n 2, 1) := by decide +kernel
theorem dX1_putBlock_33 : decode cX1_putBlock 33 = .ok (.aload_n 0, 1) := by decide +kernel
theorem dX1_putBlock_34 : decode cX1_putBlock 34 = .ok (.getfield 101, 3) := by decide +kernel
theorem dX1_putBlock_37 : decode cX1_putBlock 37 = .ok (.invokestatic 111, 3) := by decide +kernel
theorem dX1_putBlock_40 : decode cX1_putBlock 40 = .ok (.invokestatic 140, 3) := by decide +kernel
theorem dX1_putBlock_43 : decode cX1_putBlock 43 = .ok (.aload_n 1, 1) := by decide +kernel
theorem dX1_putBlock_44 : decode cX1_putBlock 44 = .ok (.aload_n 0, 1) := by decide +kernel
theorem dX1_putBlock_45 : decode cX1_putBlock 45 = .ok (.getfield 43, 3) := by decide +kernel
theorem dX1_putBlock_48 : decode cX1_putBlock 48 = .ok (.invokevirtual 150, 3) := by decide +kernel
theorem dX1_putBlock_51 : decode cX1_putBlock 51 = .ok (.return_, 1) := by decide +kernel
theorem dX1_blockLength_0 : decode cX1_blockLength 0 = .ok (.aload_n 0, 1) := by decide +kernel
theorem dX1_blockLength_1 : decode cX1_blockLength 1 = .ok (.getfield 43, 3) := by decide +kernel
theorem dX1_blockLength_4 : decode cX1_blockLength 4 = .ok (.iconst 2, 1) := by decide +kernel
theorem dX1_blockLength_5 : decode cX1_blockLength 5 = .ok (.if_icmp .lt 19, 3) := by decide +kernel
theorem dX1_blockLength_8 : decode cX1_blockLength 8 = .ok (.aload_n 0, 1) := by decide +kernel
theorem dX1_blockLength_9 : decode cX1_blockLength 9 = .ok (.getfield 101, 3) := by decide +kernel
theorem dX1_blockLength_12 : decode cX1_blockLength 12 = .ok (.sipush 896, 3) := by decide +kernel
theorem dX1_blockLength_15 : decode cX1_blockLength 15 = .ok (.if_icmp .le 9, 3) := by decide +kernel
theorem dX1_blockLength_18 : decode cX1_blockLength 18 = .ok (.sipush 1024, 3) := by decide +kernel
theorem dX1_blockLength_21 : decode cX1_blockLength 21 = .ok (.goto 6, 3) := by decide +kernel
theorem dX1_blockLength_24 : decode cX1_blockLength 24 = .ok (.sipush 128, 3) := by decide +kernel
theorem dX1_blockLength_27 : decode cX1_blockLength 27 = .ok (.ireturn, 1) := by decide +kernel
theorem dX2_init_0 : decode cX2_init 0 = .ok (.aload_n 0, 1) := by decide +kernel
theorem dX2_init_1 : decode cX2_init 1 = .ok (.invokespecial 3, 3) := by decide +kernel
theorem dX2_init_4 : decode cX2_init 4 = .ok (.aload_n 0, 1) := by decide +kernel
theorem dX2_init_5 : decode cX2_init 5 = .ok (.bipush 96, 2) := by decide +kernel
theorem dX2_init_7 : decode cX2_init 7 = .ok (.newarray .byte, 2) := by decide +kernel
theorem dX2_init_9 : decode cX2_init 9 = .ok (.putfield 9, 3) := by decide +kernel
theorem dX2_init_12 : decode cX2_init 12 = .ok (.aload_n 0, 1) := by decide +kernel
theorem dX2_init_13 : decode cX2_init 13 = .ok (.bipush 8, 2) := by decide +kernel
theorem dX2_init_15 : decode cX2_init 15 = .ok (.newarray .int, 2) := by decide +kernel
theorem dX2_init_17 : decode cX2_init 17 = .ok (.putfield 15, 3) := by decide +kernel
theorem dX2_init_20 : decode cX2_init 20 = .ok (.aload_n 0, 1) := by decide +kernel
theorem dX2_init_21 : decode cX2_init 21 = .ok (.bipush 8, 2) := by decide +kernel
theorem dX2_init_23 : decode cX2_init 23 = .ok (.newarray .int, 2) := by decide +kernel
theorem dX2_init_25 : decode cX2_init 25 = .ok (.putfield 19, 3) := by decide +kernel
theorem dX2_init_28 : decode cX2_init 28 = .ok (.aload_n 0, 1) := by decide +kernel
theorem dX2_init_29 : decode cX2_init 29 = .ok (.bipush 8, 2) := by decide +kernel
theorem dX2_init_31 : decode cX2_init 31 = .ok (.newarray .int, 2) := by decide +kernel
theorem dX2_init_33 : decode cX2_init 33 = .ok (.putfield 22, 3) := by decide +kernel
theorem dX2_init_36 : decode cX2_init 36 = .ok (.aload_n 0, 1) := by decide +kernel
theorem dX2_init_37 : decode cX2_init 37 = .ok (.iload_n 1, 1) := by decide +kernel
theorem dX2_init_38 : decode cX2_init 38 = .ok (.newarray .byte, 2) := by decide +kernel
theorem dX2_init_40 : decode cX2_init 40 = .ok (.putfield 25, 3) := by decide +kernel
theorem dX2_init_43 : decode cX2_init 43 = .ok (.return_, 1) := by decide +kernel
theorem dX2_has_0 : decode cX2_has 0 = .ok (.iload_n 1, 1) := by decide +kernel
theorem dX2_has_1 : decode cX2_has 1 = .ok (.ifCond .lt 15, 3) := by decide +kernel
theorem dX2_has_4 : decode cX2_has 4 = .ok (.iload_n 1, 1) := by decide +kernel
theorem dX2_has_5 : decode cX2_has 5 = .ok (.aload_n 0, 1) := by decide +kernel
theorem dX2_has_6 : decode cX2_has 6 = .ok (.getfield 28, 3) := by decide +kernel
theorem dX2_has_9 : decode cX2_has 9 = .ok (.if_icmp .ge 7, 3) := by decide +kernel
theorem dX2_has_12 : decode cX2_has 12 = .ok (.iconst 1, 1) := by decide +kernel
theorem dX2_has_13 : decode cX2_has 13 = .ok (.goto 4, 3) := by decide +kernel
theorem dX2_has_16 : decode cX2_has 16 = .ok (.iconst 0, 1) := by decide +kernel
theorem dX2_has_17 : decode cX2_has 17 = .ok (.ireturn, 1) := by decide +kernel
theorem dX2_open_0 : decode cX2_open 0 = .ok (.aload_n 0, 1) := by decide +kernel
theorem dX2_open_1 : decode cX2_open 1 = .ok (.getfield 28, 3) := by decide +kernel
theorem dX2_open_4 : decode cX2_open 4 = .ok (.bipush 8, 2) := by decide +kernel
theorem dX2_open_6 : decode cX2_open 6 = .ok (.if_icmp .lt 4, 3) := by decide +kernel
theorem dX2_open_9 : decode cX2_open 9 = .ok (.return_, 1) := by decide +kernel
theorem dX2_open_10 : decode cX2_open 10 = .ok (.aload_n 0, 1) := by decide +kernel
theorem dX2_open_11 : decode cX2_open 11 = .ok (.getfield 19, 3) := by decide +kernel
theorem dX2_open_14 : decode cX2_open 14 = .ok (.aload_n 0, 1) := by decide +kernel
theorem dX2_open_15 : decode cX2_open 15 = .ok (.getfield 28, 3) := by decide +kernel
theorem dX2_open_18 : decode cX2_open 18 = .ok (.aload_n 0, 1) := by decide +kernel
theorem dX2_open_19 : decode cX2_open 19 = .ok (.getfield 28, 3) := by decide +kernel
theorem dX2_open_22 : decode cX2_open 22 = .ok (.ifCond .ne 7, 3) := by decide +kernel
theorem dX2_open_25 : decode cX2_open 25 = .ok (.iconst 0, 1) := by decide +kernel
theorem dX2_open_26 : decode cX2_open 26 = .ok (.goto 26, 3) := by decide +kernel
theorem dX2_open_29 : decode cX2_open 29 = .ok (.aload_n 0, 1) := by decide +kernel
theorem dX2_open_30 : decode cX2_open 30 = .ok (.getfield 19, 3) := by decide +kernel
theorem dX2_open_33 : decode cX2_open 33 = .ok (.aload_n 0, 1) := by decide +kernel
theorem dX2_open_34 : decode cX2_open 34 = .ok (.getfield 28, 3) := by decide +kernel
theorem dX2_open_37 : decode cX2_open 37 = .ok (.iconst 1, 1) := by decide +kernel
theorem dX2_open_38 : decode cX2_open 38 = .ok (.isub, 1) := by decide +kernel
theorem dX2_open_39 : decode cX2_open 39 = .ok (.iaload, 1) := by decide +kernel
theorem dX2_open_40 : decode cX2_open 40 = .ok (.aload_n 0, 1) := by decide +kernel
theorem dX2_open_41 : decode cX2_open 41 = .ok (.getfield 22, 3) := by decide +kernel
theorem dX2_open_44 : decode cX2_open 44 = .ok (.aload_n 0, 1) := by decide +kernel
end
section
theorem dX2_open_45 : decode cX2_open 45 = .ok (.getfield 28, 3) := by decide +kernel
theorem dX2_open_48 : decode cX2_open 48 = .ok (.iconst 1, 1) := by decide +kernel
theorem dX2_open_49 : decode cX2_open 49 = .ok (.isub, 1) := by decide +kernel
theorem dX2_open_50 : decode cX2_open 50 = .ok (.iaload, 1) := by decide +kernel
theorem dX2_open_51 : decode cX2_open 51 = .ok (.iadd, 1) := by decide +kernel
theorem dX2_open_52 : decode cX2_open 52 = .ok (.iastore, 1) := by decide +kernel
theorem dX2_open_53 : decode cX2_open 53 = .ok (.aload_n 0, 1) := by decide +kernel
theorem dX2_open_54 : decode cX2_open 54 = .ok (.getfield 22, 3) := by decide +kernel
theorem dX2_open_57 : decode cX2_open 57 = .ok (.aload_n 0, 1) := by decide +kernel
theorem dX2_open_58 : decode cX2_open 58 = .ok (.getfield 28, 3) := by decide +kernel
theorem dX2_open_61 : decode cX2_open 61 = .ok (.iconst 0, 1) := by decide +kernel
theorem dX2_open_62 : decode cX2_open 62 = .ok (.iastore, 1) := by decide +kernel
theorem dX2_open_63 : decode cX2_open 63 = .ok (.aload_n 0, 1) := by decide +kernel
theorem dX2_open_64 : decode cX2_open 64 = .ok (.getfield 15, 3) := by decide +kernel
theorem dX2_open_67 : decode cX2_open 67 = .ok (.aload_n 0, 1) := by decide +kernel
theorem dX2_open_68 : decode cX2_open 68 = .ok (.getfield 28, 3) := by decide +kernel
theorem dX2_open_71 : decode cX2_open 71 = .ok (.iconst 0, 1) := by decide +kernel
theorem dX2_open_72 : decode cX2_open 72 = .ok (.iastore, 1) := by decide +kernel
theorem dX2_open_73 : decode cX2_open 73 = .ok (.aload_n 0, 1) := by decide +kernel
theorem dX2_open_74 : decode cX2_open 74 = .ok (.dup, 1) := by decide +kernel
theorem dX2_open_75 : decode cX2_open 75 = .ok (.getfield 28, 3) := by decide +kernel
theorem dX2_open_78 : decode cX2_open 78 = .ok (.iconst 1, 1) := by decide +kernel
theorem dX2_open_79 : decode cX2_open 79 = .ok (.iadd, 1) := by decide +kernel
theorem dX2_open_80 : decode cX2_open 80 = .ok (.putfield 28, 3) := by decide +kernel
theorem dX2_open_83 : decode cX2_open 83 = .ok (.return_, 1) := by decide +kernel
theorem dX2_nameLast_0 : decode cX2_nameLast 0 = .ok (.aload_n 0, 1) := by decide +kernel
theorem dX2_nameLast_1 : decode cX2_nameLast 1 = .ok (.getfield 28, 3) := by decide +kernel
theorem dX2_nameLast_4 : decode cX2_nameLast 4 = .ok (.iconst 1, 1) := by decide +kernel
theorem dX2_nameLast_5 : decode cX2_nameLast 5 = .ok (.isub, 1) := by decide +kernel
theorem dX2_nameLast_6 : decode cX2_nameLast 6 = .ok (.istore 4, 2) := by decide +kernel
theorem dX2_nameLast_8 : decode cX2_nameLast 8 = .ok (.iload 4, 2) := by decide +kernel
theorem dX2_nameLast_10 : decode cX2_nameLast 10 = .ok (.ifCond .lt 32, 3) := by decide +kernel
theorem dX2_nameLast_13 : decode cX2_nameLast 13 = .ok (.iload_n 3, 1) := by decide +kernel
theorem dX2_nameLast_14 : decode cX2_nameLast 14 = .ok (.bipush 12, 2) := by decide +kernel
theorem dX2_nameLast_16 : decode cX2_nameLast 16 = .ok (.if_icmp .gt 26, 3) := by decide +kernel
theorem dX2_nameLast_19 : decode cX2_nameLast 19 = .ok (.aload_n 1, 1) := by decide +kernel
theorem dX2_nameLast_20 : decode cX2_nameLast 20 = .ok (.iload_n 2, 1) := by decide +kernel
theorem dX2_nameLast_21 : decode cX2_nameLast 21 = .ok (.aload_n 0, 1) := by decide +kernel
theorem dX2_nameLast_22 : decode cX2_nameLast 22 = .ok (.getfield 9, 3) := by decide +kernel
theorem dX2_nameLast_25 : decode cX2_nameLast 25 = .ok (.iload 4, 2) := by decide +kernel
theorem dX2_nameLast_27 : decode cX2_nameLast 27 = .ok (.bipush 12, 2) := by decide +kernel
theorem dX2_nameLast_29 : decode cX2_nameLast 29 = .ok (.imul, 1) := by decide +kernel
theorem dX2_nameLast_30 : decode cX2_nameLast 30 = .ok (.iload_n 3, 1) := by decide +kernel
theorem dX2_nameLast_31 : decode cX2_nameLast 31 = .ok (.invokestatic 32, 3) := by decide +kernel
theorem dX2_nameLast_34 : decode cX2_nameLast 34 = .ok (.aload_n 0, 1) := by decide +kernel
theorem dX2_nameLast_35 : decode cX2_nameLast 35 = .ok (.getfield 15, 3) := by decide +kernel
theorem dX2_nameLast_38 : decode cX2_nameLast 38 = .ok (.iload 4, 2) := by decide +kernel
theorem dX2_nameLast_40 : decode cX2_nameLast 40 = .ok (.iload_n 3, 1) := by decide +kernel
theorem dX2_nameLast_41 : decode cX2_nameLast 41 = .ok (.iastore, 1) := by decide +kernel
theorem dX2_nameLast_42 : decode cX2_nameLast 42 = .ok (.return_, 1) := by decide +kernel
theorem dX2_nameLastByLetter_0 : decode cX2_nameLastByLetter 0 = .ok (.aload_n 0, 1) := by decide +kernel
theorem dX2_nameLastByLetter_1 : decode cX2_nameLastByLetter 1 = .ok (.getfield 28, 3) := by decide +kernel
theorem dX2_nameLastByLetter_4 : decode cX2_nameLastByLetter 4 = .ok (.iconst 1, 1) := by decide +kernel
theorem dX2_nameLastByLetter_5 : decode cX2_nameLastByLetter 5 = .ok (.isub, 1) := by decide +kernel
theorem dX2_nameLastByLetter_6 : decode cX2_nameLastByLetter 6 = .ok (.istore_n 2, 1) := by decide +kernel
theorem dX2_nameLastByLetter_7 : decode cX2_nameLastByLetter 7 = .ok (.iload_n 2, 1) := by decide +kernel
theorem dX2_nameLastByLetter_8 : decode cX2_nameLastByLetter 8 = .ok (.ifCond .lt 21, 3) := by decide +kernel
theorem dX2_nameLastByLetter_11 : decode cX2_nameLastByLetter 11 = .ok (.aload_n 0, 1) := by decide +kernel
theorem dX2_nameLastByLetter_12 : decode cX2_nameLastByLetter 12 = .ok (.getfield 9, 3) := by decide +kernel
theorem dX2_nameLastByLetter_15 : decode cX2_nameLastByLetter 15 = .ok (.iload_n 2, 1) := by decide +kernel
theorem dX2_nameLastByLetter_16 : decode cX2_nameLastByLetter 16 = .ok (.bipush 12, 2) := by decide +kernel
theorem dX2_nameLastByLetter_18 : decode cX2_nameLastByLetter 18 = .ok (.imul, 1) := by decide +kernel
theorem dX2_nameLastByLetter_19 : decode cX2_nameLastByLetter 19 = .ok (.iload_n 1, 1) := by decide +kernel
theorem dX2_nameLastByLetter_20 : decode cX2_nameLastByLetter 20 = .ok (.i2b, 1) := by decide +kernel
theorem dX2_nameLastByLetter_21 : decode cX2_nameLastByLetter 21 = .ok (.bastore, 1) := by decide +kernel
theorem dX2_nameLastByLetter_22 : decode cX2_nameLastByLetter 22 = .ok (.aload_n 0, 1) := by decide +kernel
theorem dX2_nameLastByLetter_23 : decode cX2_nameLastByLetter 23 = .ok (.getfield 15, 3) := by decide +kernel
theorem dX2_nameLastByLetter_26 : decode cX2_nameLastByLetter 26 = .ok (.iload_n 2, 1) := by decide +kernel
theorem dX2_nameLastByLetter_27 : decode cX2_nameLastByLetter 27 = .ok (.iconst 1, 1) := by decide +kernel
theorem dX2_nameLastByLetter_28 : decode cX2_nameLastByLetter 28 = .ok (.iastore, 1) := by decide +kernel
theorem dX2_nameLastByLetter_29 : decode cX2_nameLastByLetter 29 = .ok (.return_, 1) := by decide +kernel
theorem dX2_extendLast_0 : decode cX2_extendLast 0 = .ok (.aload_n 0, 1) := by decide +kernel
theorem dX2_extendLast_1 : decode cX2_extendLast 1 = .ok (.getfield 28, 3) := by decide +kernel
theorem dX2_extendLast_4 : decode cX2_extendLast 4 = .ok (.iconst 1, 1) := by decide +kernel
theorem dX2_extendLast_5 : decode cX2_extendLast 5 = .ok (.isub, 1) := by decide +kernel
theorem dX2_extendLast_6 : decode cX2_extendLast 6 = .ok (.istore 4, 2) := by decide +kernel
theorem dX2_extendLast_8 : decode cX2_extendLast 8 = .ok (.iload 4, 2) := by decide +kernel
theorem dX2_extendLast_10 : decode cX2_extendLast 10 = .ok (.ifCond .lt 64, 3) := by decide +kernel
theorem dX2_extendLast_13 : decode cX2_extendLast 13 = .ok (.aload_n 0, 1) := by decide +kernel
theorem dX2_extendLast_14 : decode cX2_extendLast 14 = .ok (.getfield 19, 3) := by decide +kernel
theorem dX2_extendLast_17 : decode cX2_extendLast 17 = .ok (.iload 4, 2) := by decide +kernel
theorem dX2_extendLast_19 : decode cX2_extendLast 19 = .ok (.iaload, 1) := by decide +kernel
theorem dX2_extendLast_20 : decode cX2_extendLast 20 = .ok (.aload_n 0, 1) := by decide +kernel
theorem dX2_extendLast_21 : decode cX2_extendLast 21 = .ok (.getfield 22, 3) := by decide +kernel
theorem dX2_extendLast_24 : decode cX2_extendLast 24 = .ok (.iload 4, 2) := by decide +kernel
theorem dX2_extendLast_26 : decode cX2_extendLast 26 = .ok (.iaload, 1) := by decide +kernel
theorem dX2_extendLast_27 : decode cX2_extendLast 27 = .ok (.iadd, 1) := by decide +kernel
theorem dX2_extendLast_28 : decode cX2_extendLast 28 = .ok (.iload_n 3, 1) := by decide +kernel
theorem dX2_extendLast_29 : decode cX2_extendLast 29 = .ok (.iadd, 1) := by decide +kernel
theorem dX2_extendLast_30 : decode cX2_extendLast 30 = .ok (.aload_n 0, 1) := by decide +kernel
theorem dX2_extendLast_31 : decode cX2_extendLast 31 = .ok (.getfield 25, 3) := by decide +kernel
theorem dX2_extendLast_34 : decode cX2_extendLast 34 = .ok (.arraylength, 1) := by decide +kernel
theorem dX2_extendLast_35 : decode cX2_extendLast 35 = .ok (.if_icmp .gt 39, 3) := by decide +kernel
theorem dX2_extendLast_38 : decode cX2_extendLast 38 = .ok (.aload_n 1, 1) := by decide +kernel
theorem dX2_extendLast_39 : decode cX2_extendLast 39 = .ok (.iload_n 2, 1) := by decide +kernel
theorem dX2_extendLast_40 : decode cX2_extendLast 40 = .ok (.aload_n 0, 1) := by decide +kernel
theorem dX2_extendLast_41 : decode cX2_extendLast 41 = .ok (.getfield 25, 3) := by decide +kernel
theorem dX2_extendLast_44 : decode cX2_extendLast 44 = .ok (.aload_n 0, 1) := by decide +kernel
theorem dX2_extendLast_45 : decode cX2_extendLast 45 = .ok (.getfield 19, 3) := by decide +kernel
theorem dX2_extendLast_48 : decode cX2_extendLast 48 = .ok (.iload 4, 2) := by decide +kernel
theorem dX2_extendLast_50 : decode cX2_extendLast 50 = .ok (.iaload, 1) := by decide +kernel
theorem dX2_extendLast_51 : decode cX2_extendLast 51 = .ok (.aload_n 0, 1) := by decide +kernel
theorem dX2_extendLast_52 : decode cX2_extendLast 52 = .ok (.getfield 22, 3) := by decide +kernel
theorem dX2_extendLast_55 : decode cX2_extendLast 55 = .ok (.iload 4, 2) := by decide +kernel
theorem dX2_extendLast_57 : decode cX2_extendLast 57 = .ok (.iaload, 1) := by decide +kernel
theorem dX2_extendLast_58 : decode cX2_extendLast 58 = .ok (.iadd, 1) := by decide +kernel
theorem dX2_extendLast_59 : decode cX2_extendLast 59 = .ok (.iload_n 3, 1) := by decide +kernel
theorem dX2_extendLast_60 : decode cX2_extendLast 60 = .ok (.invokestatic 32, 3) := by decide +kernel
theorem dX2_extendLast_63 : decode cX2_extendLast 63 = .ok (.aload_n 0, 1) := by decide +kernel
theorem dX2_extendLast_64 : decode cX2_extendLast 64 = .ok (.getfield 22, 3) := by decide +kernel
theorem dX2_extendLast_67 : decode cX2_extendLast 67 = .ok (.iload 4, 2) := by decide +kernel
theorem dX2_extendLast_69 : decode cX2_extendLast 69 = .ok (.dup2, 1) := by decide +kernel
theorem dX2_extendLast_70 : decode cX2_extendLast 70 = .ok (.iaload, 1) := by decide +kernel
theorem dX2_extendLast_71 : decode cX2_extendLast 71 = .ok (.iload_n 3, 1) := by decide +kernel
theorem dX2_extendLast_72 : decode cX2_extendLast 72 = .ok (.iadd, 1) := by decide +kernel
theorem dX2_extendLast_73 : decode cX2_extendLast 73 = .ok (.iastore, 1) := by decide +kernel
theorem dX2_extendLast_74 : decode cX2_extendLast 74 = .ok (.return_, 1) := by decide +kernel
theorem dX2_extendLastByOne_0 : decode cX2_extendLastByOne 0 = .ok (.aload_n 0, 1) := by decide +kernel
theorem dX2_extendLastByOne_1 : decode cX2_extendLastByOne 1 = .ok (.getfield 28, 3) := by decide +kernel
theorem dX2_extendLastByOne_4 : decode cX2_extendLastByOne 4 = .ok (.iconst 1, 1) := by decide +kernel
theorem dX2_extendLastByOne_5 : decode cX2_extendLastByOne 5 = .ok (.isub, 1) := by decide +kernel
theorem dX2_extendLastByOne_6 : decode cX2_extendLastByOne 6 = .ok (.istore_n 2, 1) := by decide +kernel
theorem dX2_extendLastByOne_7 : decode cX2_extendLastByOne 7 = .ok (.iload_n 2, 1) := by decide +kernel
theorem dX2_extendLastByOne_8 : decode cX2_extendLastByOne 8 = .ok (.ifCond .lt 54, 3) := by decide +kernel
theorem dX2_extendLastByOne_11 : decode cX2_extendLastByOne 11 = .ok (.aload_n 0, 1) := by decide +kernel
theorem dX2_extendLastByOne_12 : decode cX2_extendLastByOne 12 = .ok (.getfield 19, 3) := by decide +kernel
theorem dX2_extendLastByOne_15 : decode cX2_extendLastByOne 15 = .ok (.iload_n 2, 1) := by decide +kernel
theorem dX2_extendLastByOne_16 : decode cX2_extendLastByOne 16 = .ok (.iaload, 1) := by decide +kernel
theorem dX2_extendLastByOne_17 : decode cX2_extendLastByOne 17 = .ok (.aload_n 0, 1) := by decide +kernel
theorem dX2_extendLastByOne_18 : decode cX2_extendLastByOne 18 = .ok (.getfield 22, 3) := by decide +kernel
theorem dX2_extendLastByOne_21 : decode cX2_extendLastByOne 21 = .ok (.iload_n 2, 1) := by decide +kernel
theorem dX2_extendLastByOne_22 : decode cX2_extendLastByOne 22 = .ok (.iaload, 1) := by decide +kernel
theorem dX2_extendLastByOne_23 : decode cX2_extendLastByOne 23 = .ok (.iadd, 1) := by decide +kernel
theorem dX2_extendLastByOne_24 : decode cX2_extendLastByOne 24 = .ok (.aload_n 0, 1) := by decide +kernel
theorem dX2_extendLastByOne_25 : decode cX2_extendLastByOne 25 = .ok (.getfield 25, 3) := by decide +kernel
theorem dX2_extendLastByOne_28 : decode cX2_extendLastByOne 28 = .ok (.arraylength, 1) := by decide +kernel
theorem dX2_extendLastByOne_29 : decode cX2_extendLastByOne 29 = .ok (.if_icmp .ge 33, 3) := by decide +kernel
theorem dX2_extendLastByOne_32 : decode cX2_extendLastByOne 32 = .ok (.aload_n 0, 1) := by decide +kernel
theorem dX2_extendLastByOne_33 : decode cX2_extendLastByOne 33 = .ok (.getfield 25, 3) := by decide +kernel
theorem dX2_extendLastByOne_36 : decode cX2_extendLastByOne 36 = .ok (.aload_n 0, 1) := by decide +kernel
theorem dX2_extendLastByOne_37 : decode cX2_extendLastByOne 37 = .ok (.getfield 19, 3) := by decide +kernel
theorem dX2_extendLastByOne_40 : decode cX2_extendLastByOne 40 = .ok (.iload_n 2, 1) := by decide +kernel
theorem dX2_extendLastByOne_41 : decode cX2_extendLastByOne 41 = .ok (.iaload, 1) := by decide +kernel
theorem dX2_extendLastByOne_42 : decode cX2_extendLastByOne 42 = .ok (.aload_n 0, 1) := by decide +kernel
theorem dX2_extendLastByOne_43 : decode cX2_extendLastByOne 43 = .ok (.getfield 22, 3) := by decide +kernel
theorem dX2_extendLastByOne_46 : decode cX2_extendLastByOne 46 = .ok (.iload_n 2, 1) := by decide +kernel
theorem dX2_extendLastByOne_47 : decode cX2_extendLastByOne 47 = .ok (.iaload, 1) := by decide +kernel
theorem dX2_extendLastByOne_48 : decode cX2_extendLastByOne 48 = .ok (.iadd, 1) := by decide +kernel
theorem dX2_extendLastByOne_49 : decode cX2_extendLastByOne 49 = .ok (.iload_n 1, 1) := by decide +kernel
theorem dX2_extendLastByOne_50 : decode cX2_extendLastByOne 50 = .ok (.i2b, 1) := by decide +kernel
theorem dX2_extendLastByOne_51 : decode cX2_extendLastByOne 51 = .ok (.bastore, 1) := by decide +kernel
theorem dX2_extendLastByOne_52 : decode cX2_extendLastByOne 52 = .ok (.aload_n 0, 1) := by decide +kernel
theorem dX2_extendLastByOne_53 : decode cX2_extendLastByOne 53 = .ok (.getfield 22, 3) := by decide +kernel
theorem dX2_extendLastByOne_56 : decode cX2_extendLastByOne 56 = .ok (.iload_n 2, 1) := by decide +kernel
theorem dX2_extendLastByOne_57 : decode cX2_extendLastByOne 57 = .ok (.dup2, 1) := by decide +kernel
theorem dX2_extendLastByOne_58 : decode cX2_extendLastByOne 58 = .ok (.iaload, 1) := by decide +kernel
theorem dX2_extendLastByOne_59 : decode cX2_extendLastByOne 59 = .ok (.iconst 1, 1) := by decide +kernel
theorem dX2_extendLastByOne_60 : decode cX2_extendLastByOne 60 = .ok (.iadd, 1) := by decide +kernel
theorem dX2_extendLastByOne_61 : decode cX2_extendLastByOne 61 = .ok (.iastore, 1) := by decide +kernel
theorem dX2_extendLastByOne_62 : decode cX2_extendLastByOne 62 = .ok (.return_, 1) := by decide +kernel
theorem dX2_cutLast_0 : decode cX2_cutLast 0 = .ok (.aload_n 0, 1) := by decide +kernel
theorem dX2_cutLast_1 : decode cX2_cutLast 1 = .ok (.getfield 28, 3) := by decide +kernel
theorem dX2_cutLast_4 : decode cX2_cutLast 4 = .ok (.iconst 1, 1) := by decide +kernel
theorem dX2_cutLast_5 : decode cX2_cutLast 5 = .ok (.isub, 1) := by decide +kernel
theorem dX2_cutLast_6 : decode cX2_cutLast 6 = .ok (.istore_n 2, 1) := by decide +kernel
theorem dX2_cutLast_7 : decode cX2_cutLast 7 = .ok (.iload_n 2, 1) := by decide +kernel
theorem dX2_cutLast_8 : decode cX2_cutLast 8 = .ok (.ifCond .lt 20, 3) := by decide +kernel
theorem dX2_cutLast_11 : decode cX2_cutLast 11 = .ok (.aload_n 0, 1) := by decide +kernel
theorem dX2_cutLast_12 : decode cX2_cutLast 12 = .ok (.getfield 22, 3) := by decide +kernel
theorem dX2_cutLast_15 : decode cX2_cutLast 15 = .ok (.iload_n 2, 1) := by decide +kernel
theorem dX2_cutLast_16 : decode cX2_cutLast 16 = .ok (.iaload, 1) := by decide +kernel
theorem dX2_cutLast_17 : decode cX2_cutLast 17 = .ok (.iload_n 1, 1) := by decide +kernel
theorem dX2_cutLast_18 : decode cX2_cutLast 18 = .ok (.if_icmp .le 10, 3) := by decide +kernel
theorem dX2_cutLast_21 : decode cX2_cutLast 21 = .ok (.aload_n 0, 1) := by decide +kernel
theorem dX2_cutLast_22 : decode cX2_cutLast 22 = .ok (.getfield 22, 3) := by decide +kernel
theorem dX2_cutLast_25 : decode cX2_cutLast 25 = .ok (.iload_n 2, 1) := by decide +kernel
theorem dX2_cutLast_26 : decode cX2_cutLast 26 = .ok (.iload_n 1, 1) := by decide +kernel
theorem dX2_cutLast_27 : decode cX2_cutLast 27 = .ok (.iastore, 1) := by decide +kernel
theorem dX2_cutLast_28 : decode cX2_cutLast 28 = .ok (.return_, 1) := by decide +kernel
theorem dX3_init_0 : decode cX3_init 0 = .ok (.aload_n 0, 1) := by decide +kernel
theorem dX3_init_1 : decode cX3_init 1 = .ok (.invokespecial 3, 3) := by decide +kernel
theorem dX3_init_4 : decode cX3_init 4 = .ok (.return_, 1) := by decide +kernel
set_option maxRecDepth 20000 in
theorem ggX3_hear_X6_empty : GoodIn wsX3_hear wsX6_empty := goodIn_r _ [6, 7, 248, 249] (by decide +kernel) (by decide +kernel)
set_option maxRecDepth 20000 in
theorem gX3_hear_X6_empty : GoodIn wsX3_hear (wsV RX3 15 RX6 yX6_empty wsX6_empty) := goodIn_app (goodIn_of _ (by decide +kernel)) ggX3_hear_X6_empty
set_option maxRecDepth 20000 in
theorem ggX3_hear_X6_isByte : GoodIn wsX3_hear wsX6_isByte := goodIn_r _ [11, 7, 12, 13, 14, 5, 15, 16, 248, 249] (by decide +kernel) (by decide +kernel)
set_option maxRecDepth 20000 in
theorem gX3_hear_X6_isByte : GoodIn wsX3_hear (wsV RX3 20 RX6 yX6_isByte wsX6_isByte) := goodIn_app (goodIn_of _ (by decide +kernel)) ggX3_hear_X6_isByte
set_option maxRecDepth 20000 in
theorem ggX3_hear_X0_answer : GoodIn wsX3_hear wsX0_answer := goodIn_r _ [22, 23, 24, 25, 26, 27, 28, 5, 29, 7, 30, 31, 32, 33, 12, 13, 14, 15, 16, 34, 35, 36, 37, 38, 39, 40, 41, 42, 43, 44, 45, 21, 46, 47, 48, 49, 50, 51, 52, 53, 54, 55, 56, 57, 58, 59, 60, 61, 62, 63, 64, 65, 66, 67, 68, 69, 70, 71, 72, 73, 74, 75, 76, 77, 78, 79, 80, 81, 82, 83, 84, 85, 86, 87, 88, 89, 90, 91, 92, 93, 94, 95, 96, 97, 98, 99, 100, 101, 102, 103, 104, 105, 106, 107, 108, 109, 110, 111, 112, 113, 1, 114, 115, 9, 10, 11, 116, 117, 118, 119, 120, 121, 122, 123, 124, 125, 126, 127, 128, 129, 130, 131, 132, 133, 134, 135, 136, 137, 138, 139, 140, 141, 142, 143, 144, 229, 230, 231, 232, 233, 234, 235, 236, 237, 238, 239, 240, 241, 242, 243, 244, 245, 246, 247, 248, 249, 250, 251, 252, 253, 254, 255] (by decide +kernel) (by decide +kernel)
set_option maxRecDepth 20000 in
theorem gX3_hear_X0_answer_u24X0 : GoodIn wsX3_hear (va_wsU RX3 24 RX0 "BatchTransfer$Side" ⟨"BatchTransfer$Side", "answer", "(LBatchTransfer$Wire;)V"⟩ yX0_answer wsX0_answer) := goodIn_app (goodIn_of _ (by decide +kernel)) ggX3_hear_X0_answer
set_option maxRecDepth 20000 in
theorem ggX3_hear_X1_answer : GoodIn wsX3_hear wsX1_answer := goodIn_r _ [148, 149, 150, 151, 152, 153, 142, 143, 144, 154, 9, 10, 5, 11, 7, 12, 13, 14, 15, 16, 155, 156, 157, 147, 158, 159, 160, 161, 162, 163, 164, 3, 4, 6, 165, 166, 167, 168, 169, 170, 171, 172, 173, 174, 78, 79, 80, 175, 176, 177, 178, 179, 180, 181, 182, 66, 183, 68, 184, 185, 186, 187, 188, 189, 190, 34, 35, 36, 37, 38, 39, 40, 41, 42, 191, 192, 193, 194, 195, 196, 197, 198, 199, 200, 201, 202, 203, 204, 205, 206, 207, 105, 106, 107, 208, 209, 210, 211, 212, 213, 214, 215, 216, 217, 218, 219, 220, 221, 222, 223, 224, 225, 226, 227, 228, 135, 112, 136, 137, 138, 139, 140, 111, 113, 1, 114, 141, 238, 239, 240, 241, 242, 243, 244, 245, 246, 247, 229, 230, 231, 232, 233, 234, 235, 236, 237, 248, 249, 250, 251, 252, 253, 254, 255] (by decide +kernel) (by decide +kernel)
set_option maxRecDepth 20000 in
theorem gX3_hear_X1_answer_u24X1 : GoodIn wsX3_hear (va_wsU RX3 24 RX1 "BatchTransfer$Side" ⟨"BatchTransfer$Side", "answer", "(LBatchTransfer$Wire;)V"⟩ yX1_answer wsX1_answer) := goodIn_app (goodIn_of _ (by decide +kernel)) ggX3_hear_X1_answer
theorem dX3_hear_0 : decode cX3_hear 0 = .ok (.aload_n 0, 1) := by decide +kernel
theorem dX3_hear_1 : decode cX3_hear 1 = .ok (.getfield 9, 3) := by decide +kernel
theorem dX3_hear_4 : decode cX3_hear 4 = .ok (.ifCond .eq 10, 3) := by decide +kernel
theorem dX3_hear_7 : decode cX3_hear 7 = .ok (.aload_n 1, 1) := by decide +kernel
theorem dX3_hear_8 : decode cX3_hear 8 = .ok (.invokevirtual 15, 3) := by decide +kernel
theorem dX3_hear_11 : decode cX3_hear 11 = .ok (.goto 29, 3) := by decide +kernel
theorem dX3_hear_14 : decode cX3_hear 14 = .ok (.aload_n 1, 1) := by decide +kernel
theorem dX3_hear_15 : decode cX3_hear 15 = .ok (.bipush 24, 2) := by decide +kernel
theorem dX3_hear_17 : decode cX3_hear 17 = .ok (.invokevirtual 20, 3) := by decide +kernel
theorem dX3_hear_20 : decode cX3_hear 20 = .ok (.ifCond .eq 15, 3) := by decide +kernel
theorem dX3_hear_23 : decode cX3_hear 23 = .ok (.aload_n 0, 1) := by decide +kernel
theorem dX3_hear_24 : decode cX3_hear 24 = .ok (.iconst 2, 1) := by decide +kernel
theorem dX3_hear_25 : decode cX3_hear 25 = .ok (.putfield 9, 3) := by decide +kernel
theorem dX3_hear_28 : decode cX3_hear 28 = .ok (.aload_n 1, 1) := by decide +kernel
theorem dX3_hear_29 : decode cX3_hear 29 = .ok (.invokevirtual 15, 3) := by decide +kernel
theorem dX3_hear_32 : decode cX3_hear 32 = .ok (.goto 8, 3) := by decide +kernel
theorem dX3_hear_35 : decode cX3_hear 35 = .ok (.aload_n 0, 1) := by decide +kernel
theorem dX3_hear_36 : decode cX3_hear 36 = .ok (.aload_n 1, 1) := by decide +kernel
theorem dX3_hear_37 : decode cX3_hear 37 = .ok (.invokevirtual 24, 3) := by decide +kernel
theorem dX3_hear_40 : decode cX3_hear 40 = .ok (.return_, 1) := by decide +kernel
theorem dX3_startWork_0 : decode cX3_startWork 0 = .ok (.aload_n 0, 1) := by decide +kernel
theorem dX3_startWork_1 : decode cX3_startWork 1 = .ok (.iload_n 1, 1) := by decide +kernel
theorem dX3_startWork_2 : decode cX3_startWork 2 = .ok (.putfield 28, 3) := by decide +kernel
theorem dX3_startWork_5 : decode cX3_startWork 5 = .ok (.aload_n 0, 1) := by decide +kernel
theorem dX3_startWork_6 : decode cX3_startWork 6 = .ok (.iconst 0, 1) := by decide +kernel
theorem dX3_startWork_7 : decode cX3_startWork 7 = .ok (.putfield 9, 3) := by decide +kernel
theorem dX3_startWork_10 : decode cX3_startWork 10 = .ok (.aload_n 0, 1) := by decide +kernel
theorem dX3_startWork_11 : decode cX3_startWork 11 = .ok (.iconst 0, 1) := by decide +kernel
theorem dX3_startWork_12 : decode cX3_startWork 12 = .ok (.putfield 31, 3) := by decide +kernel
theorem dX3_startWork_15 : decode cX3_startWork 15 = .ok (.return_, 1) := by decide +kernel
set_option maxRecDepth 20000 in
theorem ggX3_bearsMiss_X3_giveUp : GoodIn wsX3_bearsMiss wsX3_giveUp := goodIn_r _ [7, 8, 9, 10, 11, 12, 13, 14, 15, 17, 18, 19, 20, 21, 22, 23, 24, 25, 26, 27, 28, 29, 30, 31, 32, 33, 34, 35, 36, 37] (by decide +kernel) (by decide +kernel)
set_option maxRecDepth 20000 in
theorem gX3_bearsMiss_X3_giveUp_u34X0 : GoodIn wsX3_bearsMiss (va_wsU RX3 34 RX0 "BatchTransfer$Side" ⟨"BatchTransfer$Side", "giveUp", "(LBatchTransfer$Wire;)V"⟩ yX3_giveUp wsX3_giveUp) := goodIn_app (goodIn_of _ (by decide +kernel)) ggX3_bearsMiss_X3_giveUp
set_option maxRecDepth 20000 in
theorem gX3_bearsMiss_X3_giveUp_u34X1 : GoodIn wsX3_bearsMiss (va_wsU RX3 34 RX1 "BatchTransfer$Side" ⟨"BatchTransfer$Side", "giveUp", "(LBatchTransfer$Wire;)V"⟩ yX3_giveUp wsX3_giveUp) := goodIn_app (goodIn_of _ (by decide +kernel)) ggX3_bearsMiss_X3_giveUp
theorem dX3_bearsMiss_0 : decode cX3_bearsMiss 0 = .ok (.aload_n 0, 1) := by decide +kernel
theorem dX3_bearsMiss_1 : decode cX3_bearsMiss 1 = .ok (.dup, 1) := by decide +kernel
theorem dX3_bearsMiss_2 : decode cX3_bearsMiss 2 = .ok (.getfield 31, 3) := by decide +kernel
theorem dX3_bearsMiss_5 : decode cX3_bearsMiss 5 = .ok (.iconst 1, 1) := by decide +kernel
theorem dX3_bearsMiss_6 : decode cX3_bearsMiss 6 = .ok (.iadd, 1) := by decide +kernel
theorem dX3_bearsMiss_7 : decode cX3_bearsMiss 7 = .ok (.putfield 31, 3) := by decide +kernel
theorem dX3_bearsMiss_10 : decode cX3_bearsMiss 10 = .ok (.aload_n 0, 1) := by decide +kernel
theorem dX3_bearsMiss_11 : decode cX3_bearsMiss 11 = .ok (.getfield 31, 3) := by decide +kernel
theorem dX3_bearsMiss_14 : decode cX3_bearsMiss 14 = .ok (.bipush 10, 2) := by decide +kernel
theorem dX3_bearsMiss_16 : decode cX3_bearsMiss 16 = .ok (.if_icmp .gt 5, 3) := by decide +kernel
theorem dX3_bearsMiss_19 : decode cX3_bearsMiss 19 = .ok (.iconst 1, 1) := by decide +kernel
theorem dX3_bearsMiss_20 : decode cX3_bearsMiss 20 = .ok (.ireturn, 1) := by decide +kernel
theorem dX3_bearsMiss_21 : decode cX3_bearsMiss 21 = .ok (.aload_n 0, 1) := by decide +kernel
theorem dX3_bearsMiss_22 : decode cX3_bearsMiss 22 = .ok (.aload_n 1, 1) := by decide +kernel
theorem dX3_bearsMiss_23 : decode cX3_bearsMiss 23 = .ok (.invokevirtual 34, 3) := by decide +kernel
theorem dX3_bearsMiss_26 : decode cX3_bearsMiss 26 = .ok (.iconst 0, 1) := by decide +kernel
theorem dX3_bearsMiss_27 : decode cX3_bearsMiss 27 = .ok (.ireturn, 1) := by decide +kernel
set_option maxRecDepth 20000 in
theorem ggX3_giveUp_X6_putByte : GoodIn wsX3_giveUp wsX6_putByte := goodIn_r _ [6, 7, 8, 28, 29] (by decide +kernel) (by decide +kernel)
set_option maxRecDepth 20000 in
theorem gX3_giveUp_X6_putByte : GoodIn wsX3_giveUp (wsV RX3 37 RX6 yX6_putByte wsX6_putByte) := goodIn_app (goodIn_of _ (by decide +kernel)) ggX3_giveUp_X6_putByte
theorem dX3_giveUp_0 : decode cX3_giveUp 0 = .ok (.aload_n 0, 1) := by decide +kernel
theorem dX3_giveUp_1 : decode cX3_giveUp 1 = .ok (.iconst 2, 1) := by decide +kernel
theorem dX3_giveUp_2 : decode cX3_giveUp 2 = .ok (.putfield 9, 3) := by decide +kernel
theorem dX3_giveUp_5 : decode cX3_giveUp 5 = .ok (.aload_n 1, 1) := by decide +kernel
theorem dX3_giveUp_6 : decode cX3_giveUp 6 = .ok (.bipush 24, 2) := by decide +kernel
theorem dX3_giveUp_8 : decode cX3_giveUp 8 = .ok (.invokevirtual 37, 3) := by decide +kernel
theorem dX3_giveUp_11 : decode cX3_giveUp 11 = .ok (.return_, 1) := by decide +kernel
theorem dX4_init_0 : decode cX4_init 0 = .ok (.aload_n 0, 1) := by decide +kernel
theorem dX4_init_1 : decode cX4_init 1 = .ok (.invokespecial 3, 3) := by decide +kernel
theorem dX4_init_4 : decode cX4_init 4 = .ok (.aload_n 0, 1) := by decide +kernel
theorem dX4_init_5 : decode cX4_init 5 = .ok (.sipush 3100, 3) := by decide +kernel
theorem dX4_init_8 : decode cX4_init 8 = .ok (.newarray .byte, 2) := by decide +kernel
theorem dX4_init_10 : decode cX4_init 10 = .ok (.putfield 9, 3) := by decide +kernel
theorem dX4_init_13 : decode cX4_init 13 = .ok (.return_, 1) := by decide +kernel
theorem dX4_append_0 : decode cX4_append 0 = .ok (.bipush 24, 2) := by decide +kernel
theorem dX4_append_2 : decode cX4_append 2 = .ok (.istore_n 2, 1) := by decide +kernel
theorem dX4_append_3 : decode cX4_append 3 = .ok (.iload_n 2, 1) := by decide +kernel
theorem dX4_append_4 : decode cX4_append 4 = .ok (.ifCond .lt 42, 3) := by decide +kernel
theorem dX4_append_7 : decode cX4_append 7 = .ok (.aload_n 0, 1) := by decide +kernel
theorem dX4_append_8 : decode cX4_append 8 = .ok (.getfield 15, 3) := by decide +kernel
theorem dX4_append_11 : decode cX4_append 11 = .ok (.sipush 3100, 3) := by decide +kernel
theorem dX4_append_14 : decode cX4_append 14 = .ok (.if_icmp .ge 32, 3) := by decide +kernel
theorem dX4_append_17 : decode cX4_append 17 = .ok (.aload_n 0, 1) := by decide +kernel
theorem dX4_append_18 : decode cX4_append 18 = .ok (.getfield 9, 3) := by decide +kernel
theorem dX4_append_21 : decode cX4_append 21 = .ok (.aload_n 0, 1) := by decide +kernel
theorem dX4_append_22 : decode cX4_append 22 = .ok (.getfield 15, 3) := by decide +kernel
theorem dX4_append_25 : decode cX4_append 25 = .ok (.iload_n 1, 1) := by decide +kernel
theorem dX4_append_26 : decode cX4_append 26 = .ok (.iload_n 2, 1) := by decide +kernel
theorem dX4_append_27 : decode cX4_append 27 = .ok (.ishr, 1) := by decide +kernel
theorem dX4_append_28 : decode cX4_append 28 = .ok (.i2b, 1) := by decide +kernel
theorem dX4_append_29 : decode cX4_append 29 = .ok (.bastore, 1) := by decide +kernel
theorem dX4_append_30 : decode cX4_append 30 = .ok (.aload_n 0, 1) := by decide +kernel
theorem dX4_append_31 : decode cX4_append 31 = .ok (.dup, 1) := by decide +kernel
theorem dX4_append_32 : decode cX4_append 32 = .ok (.getfield 15, 3) := by decide +kernel
theorem dX4_append_35 : decode cX4_append 35 = .ok (.iconst 1, 1) := by decide +kernel
theorem dX4_append_36 : decode cX4_append 36 = .ok (.iadd, 1) := by decide +kernel
theorem dX4_append_37 : decode cX4_append 37 = .ok (.putfield 15, 3) := by decide +kernel
theorem dX4_append_40 : decode cX4_append 40 = .ok (.iinc 2 (-8), 3) := by decide +kernel
theorem dX4_append_43 : decode cX4_append 43 = .ok (.goto (-40), 3) := by decide +kernel
theorem dX4_append_46 : decode cX4_append 46 = .ok (.return_, 1) := by decide +kernel
theorem dX4_nameLength_0 : decode cX4_nameLength 0 = .ok (.iconst 0, 1) := by decide +kernel
theorem dX4_nameLength_1 : decode cX4_nameLength 1 = .ok (.istore_n 1, 1) := by decide +kernel
theorem dX4_nameLength_2 : decode cX4_nameLength 2 = .ok (.iload_n 1, 1) := by decide +kernel
theorem dX4_nameLength_3 : decode cX4_nameLength 3 = .ok (.aload_n 0, 1) := by decide +kernel
theorem dX4_nameLength_4 : decode cX4_nameLength 4 = .ok (.getfield 15, 3) := by decide +kernel
theorem dX4_nameLength_7 : decode cX4_nameLength 7 = .ok (.if_icmp .ge 34, 3) := by decide +kernel
theorem dX4_nameLength_10 : decode cX4_nameLength 10 = .ok (.iload_n 1, 1) := by decide +kernel
theorem dX4_nameLength_11 : decode cX4_nameLength 11 = .ok (.bipush 12, 2) := by decide +kernel
theorem dX4_nameLength_13 : decode cX4_nameLength 13 = .ok (.if_icmp .gt 28, 3) := by decide +kernel
theorem dX4_nameLength_16 : decode cX4_nameLength 16 = .ok (.aload_n 0, 1) := by decide +kernel
theorem dX4_nameLength_17 : decode cX4_nameLength 17 = .ok (.getfield 9, 3) := by decide +kernel
theorem dX4_nameLength_20 : decode cX4_nameLength 20 = .ok (.iload_n 1, 1) := by decide +kernel
theorem dX4_nameLength_21 : decode cX4_nameLength 21 = .ok (.baload, 1) := by decide +kernel
theorem dX4_nameLength_22 : decode cX4_nameLength 22 = .ok (.ifCond .ne 13, 3) := by decide +kernel
theorem dX4_nameLength_25 : decode cX4_nameLength 25 = .ok (.iload_n 1, 1) := by decide +kernel
theorem dX4_nameLength_26 : decode cX4_nameLength 26 = .ok (.ifCond .ne 7, 3) := by decide +kernel
theorem dX4_nameLength_29 : decode cX4_nameLength 29 = .ok (.iconst (-1), 1) := by decide +kernel
theorem dX4_nameLength_30 : decode cX4_nameLength 30 = .ok (.goto 4, 3) := by decide +kernel
theorem dX4_nameLength_33 : decode cX4_nameLength 33 = .ok (.iload_n 1, 1) := by decide +kernel
theorem dX4_nameLength_34 : decode cX4_nameLength 34 = .ok (.ireturn, 1) := by decide +kernel
theorem dX4_nameLength_35 : decode cX4_nameLength 35 = .ok (.iinc 1 1, 3) := by decide +kernel
theorem dX4_nameLength_38 : decode cX4_nameLength 38 = .ok (.goto (-36), 3) := by decide +kernel
theorem dX4_nameLength_41 : decode cX4_nameLength 41 = .ok (.iconst (-1), 1) := by decide +kernel
theorem dX4_nameLength_42 : decode cX4_nameLength 42 = .ok (.ireturn, 1) := by decide +kernel
theorem dX6_init_0 : decode cX6_init 0 = .ok (.aload_n 0, 1) := by decide +kernel
theorem dX6_init_1 : decode cX6_init 1 = .ok (.invokespecial 3, 3) := by decide +kernel
theorem dX6_init_4 : decode cX6_init 4 = .ok (.aload_n 0, 1) := by decide +kernel
theorem dX6_init_5 : decode cX6_init 5 = .ok (.sipush 1029, 3) := by decide +kernel
theorem dX6_init_8 : decode cX6_init 8 = .ok (.newarray .byte, 2) := by decide +kernel
theorem dX6_init_10 : decode cX6_init 10 = .ok (.putfield 9, 3) := by decide +kernel
theorem dX6_init_13 : decode cX6_init 13 = .ok (.return_, 1) := by decide +kernel
theorem dX6_get_0 : decode cX6_get 0 = .ok (.aload_n 0, 1) := by decide +kernel
theorem dX6_get_1 : decode cX6_get 1 = .ok (.getfield 9, 3) := by decide +kernel
theorem dX6_get_4 : decode cX6_get 4 = .ok (.iload_n 1, 1) := by decide +kernel
theorem dX6_get_5 : decode cX6_get 5 = .ok (.baload, 1) := by decide +kernel
theorem dX6_get_6 : decode cX6_get 6 = .ok (.sipush 255, 3) := by decide +kernel
theorem dX6_get_9 : decode cX6_get 9 = .ok (.iand, 1) := by decide +kernel
theorem dX6_get_10 : decode cX6_get 10 = .ok (.ireturn, 1) := by decide +kernel
theorem dX6_empty_0 : decode cX6_empty 0 = .ok (.aload_n 0, 1) := by decide +kernel
theorem dX6_empty_1 : decode cX6_empty 1 = .ok (.iconst 0, 1) := by decide +kernel
theorem dX6_empty_2 : decode cX6_empty 2 = .ok (.putfield 15, 3) := by decide +kernel
theorem dX6_empty_5 : decode cX6_empty 5 = .ok (.return_, 1) := by decide +kernel
theorem dX6_putByte_0 : decode cX6_putByte 0 = .ok (.aload_n 0, 1) := by decide +kernel
theorem dX6_putByte_1 : decode cX6_putByte 1 = .ok (.getfield 9, 3) := by decide +kernel
theorem dX6_putByte_4 : decode cX6_putByte 4 = .ok (.iconst 0, 1) := by decide +kernel
theorem dX6_putByte_5 : decode cX6_putByte 5 = .ok (.iload_n 1, 1) := by decide +kernel
theorem dX6_putByte_6 : decode cX6_putByte 6 = .ok (.i2b, 1) := by decide +kernel
theorem dX6_putByte_7 : decode cX6_putByte 7 = .ok (.bastore, 1) := by decide +kernel
theorem dX6_putByte_8 : decode cX6_putByte 8 = .ok (.aload_n 0, 1) := by decide +kernel
theorem dX6_putByte_9 : decode cX6_putByte 9 = .ok (.iconst 1, 1) := by decide +kernel
theorem dX6_putByte_10 : decode cX6_putByte 10 = .ok (.putfield 15, 3) := by decide +kernel
theorem dX6_putByte_13 : decode cX6_putByte 13 = .ok (.return_, 1) := by decide +kernel
set_option maxRecDepth 20000 in
theorem ggX6_isByte_X6_get : GoodIn wsX6_isByte wsX6_get := goodIn_r _ [6, 7, 8, 9] (by decide +kernel) (by decide +kernel)
set_option maxRecDepth 20000 in
theorem gX6_isByte_X6_get : GoodIn wsX6_isByte (wsV RX6 19 RX6 yX6_get wsX6_get) := goodIn_app (goodIn_of _ (by decide +kernel)) ggX6_isByte_X6_get
theorem dX6_isByte_0 : decode cX6_isByte 0 = .ok (.aload_n 0, 1) := by decide +kernel
theorem dX6_isByte_1 : decode cX6_isByte 1 = .ok (.getfield 15, 3) := by decide +kernel
theorem dX6_isByte_4 : decode cX6_isByte 4 = .ok (.iconst 1, 1) := by decide +kernel
theorem dX6_isByte_5 : decode cX6_isByte 5 = .ok (.if_icmp .ne 16, 3) := by decide +kernel
theorem dX6_isByte_8 : decode cX6_isByte 8 = .ok (.aload_n 0, 1) := by decide +kernel
theorem dX6_isByte_9 : decode cX6_isByte 9 = .ok (.iconst 0, 1) := by decide +kernel
theorem dX6_isByte_10 : decode cX6_isByte 10 = .ok (.invokevirtual 19, 3) := by decide +kernel
theorem dX6_isByte_13 : decode cX6_isByte 13 = .ok (.iload_n 1, 1) := by decide +kernel
theorem dX6_isByte_14 : decode cX6_isByte 14 = .ok (.if_icmp .ne 7, 3) := by decide +kernel
theorem dX6_isByte_17 : decode cX6_isByte 17 = .ok (.iconst 1, 1) := by decide +kernel
theorem dX6_isByte_18 : decode cX6_isByte 18 = .ok (.goto 4, 3) := by decide +kernel
theorem dX6_isByte_21 : decode cX6_isByte 21 = .ok (.iconst 0, 1) := by decide +kernel
theorem dX6_isByte_22 : decode cX6_isByte 22 = .ok (.ireturn, 1) := by decide +kernel
set_option maxRecDepth 20000 in
theorem ggX6_damage_J9_floorMod_7cf53 : GoodIn wsX6_damage wsJ9_floorMod_7cf53 := goodIn_r _ [6] (by decide +kernel) (by decide +kernel)
set_option maxRecDepth 20000 in
theorem gX6_damage_J9_floorMod_7cf53 : GoodIn wsX6_damage (va_wsS RX6 23 yJ9_floorMod_7cf53 wsJ9_floorMod_7cf53) := goodIn_app (goodIn_of _ (by decide +kernel)) ggX6_damage_J9_floorMod_7cf53
theorem dX6_damage_0 : decode cX6_damage 0 = .ok (.aload_n 0, 1) := by decide +kernel
theorem dX6_damage_1 : decode cX6_damage 1 = .ok (.getfield 15, 3) := by decide +kernel
theorem dX6_damage_4 : decode cX6_damage 4 = .ok (.ifCond .le 22, 3) := by decide +kernel
theorem dX6_damage_7 : decode cX6_damage 7 = .ok (.aload_n 0, 1) := by decide +kernel
theorem dX6_damage_8 : decode cX6_damage 8 = .ok (.getfield 9, 3) := by decide +kernel
theorem dX6_damage_11 : decode cX6_damage 11 = .ok (.iload_n 1, 1) := by decide +kernel
theorem dX6_damage_12 : decode cX6_damage 12 = .ok (.aload_n 0, 1) := by decide +kernel
theorem dX6_damage_13 : decode cX6_damage 13 = .ok (.getfield 15, 3) := by decide +kernel
theorem dX6_damage_16 : decode cX6_damage 16 = .ok (.invokestatic 23, 3) := by decide +kernel
theorem dX6_damage_19 : decode cX6_damage 19 = .ok (.dup2, 1) := by decide +kernel
theorem dX6_damage_20 : decode cX6_damage 20 = .ok (.baload, 1) := by decide +kernel
theorem dX6_damage_21 : decode cX6_damage 21 = .ok (.iload_n 2, 1) := by decide +kernel
theorem dX6_damage_22 : decode cX6_damage 22 = .ok (.i2b, 1) := by decide +kernel
theorem dX6_damage_23 : decode cX6_damage 23 = .ok (.ixor, 1) := by decide +kernel
theorem dX6_damage_24 : decode cX6_damage 24 = .ok (.i2b, 1) := by decide +kernel
theorem dX6_damage_25 : decode cX6_damage 25 = .ok (.bastore, 1) := by decide +kernel
theorem dX6_damage_26 : decode cX6_damage 26 = .ok (.return_, 1) := by decide +kernel
theorem dX6_openBlock_0 : decode cX6_openBlock 0 = .ok (.aload_n 0, 1) := by decide +kernel
theorem dX6_openBlock_1 : decode cX6_openBlock 1 = .ok (.getfield 9, 3) := by decide +kernel
theorem dX6_openBlock_4 : decode cX6_openBlock 4 = .ok (.iconst 0, 1) := by decide +kernel
theorem dX6_openBlock_5 : decode cX6_openBlock 5 = .ok (.iload_n 2, 1) := by decide +kernel
theorem dX6_openBlock_6 : decode cX6_openBlock 6 = .ok (.sipush 1024, 3) := by decide +kernel
theorem dX6_openBlock_9 : decode cX6_openBlock 9 = .ok (.if_icmp .ne 7, 3) := by decide +kernel
theorem dX6_openBlock_12 : decode cX6_openBlock 12 = .ok (.iconst 2, 1) := by decide +kernel
theorem dX6_openBlock_13 : decode cX6_openBlock 13 = .ok (.goto 4, 3) := by decide +kernel
theorem dX6_openBlock_16 : decode cX6_openBlock 16 = .ok (.iconst 1, 1) := by decide +kernel
theorem dX6_openBlock_17 : decode cX6_openBlock 17 = .ok (.i2b, 1) := by decide +kernel
theorem dX6_openBlock_18 : decode cX6_openBlock 18 = .ok (.bastore, 1) := by decide +kernel
theorem dX6_openBlock_19 : decode cX6_openBlock 19 = .ok (.aload_n 0, 1) := by decide +kernel
theorem dX6_openBlock_20 : decode cX6_openBlock 20 = .ok (.getfield 9, 3) := by decide +kernel
theorem dX6_openBlock_23 : decode cX6_openBlock 23 = .ok (.iconst 1, 1) := by decide +kernel
theorem dX6_openBlock_24 : decode cX6_openBlock 24 = .ok (.iload_n 1, 1) := by decide +kernel
theorem dX6_openBlock_25 : decode cX6_openBlock 25 = .ok (.i2b, 1) := by decide +kernel
theorem dX6_openBlock_26 : decode cX6_openBlock 26 = .ok (.bastore, 1) := by decide +kernel
theorem dX6_openBlock_27 : decode cX6_openBlock 27 = .ok (.aload_n 0, 1) := by decide +kernel
theorem dX6_openBlock_28 : decode cX6_openBlock 28 = .ok (.getfield 9, 3) := by decide +kernel
theorem dX6_openBlock_31 : decode cX6_openBlock 31 = .ok (.iconst 2, 1) := by decide +kernel
theorem dX6_openBlock_32 : decode cX6_openBlock 32 = .ok (.sipush 255, 3) := by decide +kernel
theorem dX6_openBlock_35 : decode cX6_openBlock 35 = .ok (.iload_n 1, 1) := by decide +kernel
theorem dX6_openBlock_36 : decode cX6_openBlock 36 = .ok (.isub, 1) := by decide +kernel
theorem dX6_openBlock_37 : decode cX6_openBlock 37 = .ok (.i2b, 1) := by decide +kernel
theorem dX6_openBlock_38 : decode cX6_openBlock 38 = .ok (.bastore, 1) := by decide +kernel
theorem dX6_openBlock_39 : decode cX6_openBlock 39 = .ok (.aload_n 0, 1) := by decide +kernel
theorem dX6_openBlock_40 : decode cX6_openBlock 40 = .ok (.iconst 3, 1) := by decide +kernel
theorem dX6_openBlock_41 : decode cX6_openBlock 41 = .ok (.iload_n 2, 1) := by decide +kernel
theorem dX6_openBlock_42 : decode cX6_openBlock 42 = .ok (.iadd, 1) := by decide +kernel
theorem dX6_openBlock_43 : decode cX6_openBlock 43 = .ok (.putfield 15, 3) := by decide +kernel
theorem dX6_openBlock_46 : decode cX6_openBlock 46 = .ok (.iconst 3, 1) := by decide +kernel
theorem dX6_openBlock_47 : decode cX6_openBlock 47 = .ok (.istore 4, 2) := by decide +kernel
theorem dX6_openBlock_49 : decode cX6_openBlock 49 = .ok (.iload 4, 2) := by decide +kernel
theorem dX6_openBlock_51 : decode cX6_openBlock 51 = .ok (.aload_n 0, 1) := by decide +kernel
theorem dX6_openBlock_52 : decode cX6_openBlock 52 = .ok (.getfield 15, 3) := by decide +kernel
theorem dX6_openBlock_55 : decode cX6_openBlock 55 = .ok (.if_icmp .ge 18, 3) := by decide +kernel
theorem dX6_openBlock_58 : decode cX6_openBlock 58 = .ok (.aload_n 0, 1) := by decide +kernel
theorem dX6_openBlock_59 : decode cX6_openBlock 59 = .ok (.getfield 9, 3) := by decide +kernel
theorem dX6_openBlock_62 : decode cX6_openBlock 62 = .ok (.iload 4, 2) := by decide +kernel
theorem dX6_openBlock_64 : decode cX6_openBlock 64 = .ok (.iload_n 3, 1) := by decide +kernel
theorem dX6_openBlock_65 : decode cX6_openBlock 65 = .ok (.i2b, 1) := by decide +kernel
theorem dX6_openBlock_66 : decode cX6_openBlock 66 = .ok (.bastore, 1) := by decide +kernel
theorem dX6_openBlock_67 : decode cX6_openBlock 67 = .ok (.iinc 4 1, 3) := by decide +kernel
theorem dX6_openBlock_70 : decode cX6_openBlock 70 = .ok (.goto (-21), 3) := by decide +kernel
theorem dX6_openBlock_73 : decode cX6_openBlock 73 = .ok (.return_, 1) := by decide +kernel
set_option maxRecDepth 20000 in
theorem ggX6_sealBlock_X6_sum : GoodIn wsX6_sealBlock wsX6_sum := goodIn_r _ [7, 1, 13, 14] (by decide +kernel) (by decide +kernel)
set_option maxRecDepth 20000 in
theorem gX6_sealBlock_X6_sum : GoodIn wsX6_sealBlock (wsV RX6 29 RX6 yX6_sum wsX6_sum) := goodIn_app (goodIn_of _ (by decide +kernel)) ggX6_sealBlock_X6_sum
set_option maxRecDepth 20000 in
theorem ggX6_sealBlock_X6_crc : GoodIn wsX6_sealBlock wsX6_crc := goodIn_r _ [11, 1, 12, 13, 14] (by decide +kernel) (by decide +kernel)
set_option maxRecDepth 20000 in
theorem gX6_sealBlock_X6_crc : GoodIn wsX6_sealBlock (wsV RX6 32 RX6 yX6_crc wsX6_crc) := goodIn_app (goodIn_of _ (by decide +kernel)) ggX6_sealBlock_X6_crc
theorem dX6_sealBlock_0 : decode cX6_sealBlock 0 = .ok (.iload_n 1, 1) := by decide +kernel
theorem dX6_sealBlock_1 : decode cX6_sealBlock 1 = .ok (.ifCond .ne 34, 3) := by decide +kernel
theorem dX6_sealBlock_4 : decode cX6_sealBlock 4 = .ok (.aload_n 0, 1) := by decide +kernel
theorem dX6_sealBlock_5 : decode cX6_sealBlock 5 = .ok (.getfield 9, 3) := by decide +kernel
theorem dX6_sealBlock_8 : decode cX6_sealBlock 8 = .ok (.aload_n 0, 1) := by decide +kernel
theorem dX6_sealBlock_9 : decode cX6_sealBlock 9 = .ok (.getfield 15, 3) := by decide +kernel
theorem dX6_sealBlock_12 : decode cX6_sealBlock 12 = .ok (.aload_n 0, 1) := by decide +kernel
theorem dX6_sealBlock_13 : decode cX6_sealBlock 13 = .ok (.aload_n 0, 1) := by decide +kernel
theorem dX6_sealBlock_14 : decode cX6_sealBlock 14 = .ok (.getfield 15, 3) := by decide +kernel
theorem dX6_sealBlock_17 : decode cX6_sealBlock 17 = .ok (.invokevirtual 29, 3) := by decide +kernel
theorem dX6_sealBlock_20 : decode cX6_sealBlock 20 = .ok (.i2b, 1) := by decide +kernel
theorem dX6_sealBlock_21 : decode cX6_sealBlock 21 = .ok (.bastore, 1) := by decide +kernel
theorem dX6_sealBlock_22 : decode cX6_sealBlock 22 = .ok (.aload_n 0, 1) := by decide +kernel
theorem dX6_sealBlock_23 : decode cX6_sealBlock 23 = .ok (.dup, 1) := by decide +kernel
theorem dX6_sealBlock_24 : decode cX6_sealBlock 24 = .ok (.getfield 15, 3) := by decide +kernel
theorem dX6_sealBlock_27 : decode cX6_sealBlock 27 = .ok (.iconst 1, 1) := by decide +kernel
theorem dX6_sealBlock_28 : decode cX6_sealBlock 28 = .ok (.iadd, 1) := by decide +kernel
theorem dX6_sealBlock_29 : decode cX6_sealBlock 29 = .ok (.putfield 15, 3) := by decide +kernel
theorem dX6_sealBlock_32 : decode cX6_sealBlock 32 = .ok (.goto 49, 3) := by decide +kernel
theorem dX6_sealBlock_35 : decode cX6_sealBlock 35 = .ok (.aload_n 0, 1) := by decide +kernel
theorem dX6_sealBlock_36 : decode cX6_sealBlock 36 = .ok (.aload_n 0, 1) := by decide +kernel
theorem dX6_sealBlock_37 : decode cX6_sealBlock 37 = .ok (.getfield 15, 3) := by decide +kernel
theorem dX6_sealBlock_40 : decode cX6_sealBlock 40 = .ok (.invokevirtual 32, 3) := by decide +kernel
theorem dX6_sealBlock_43 : decode cX6_sealBlock 43 = .ok (.istore_n 2, 1) := by decide +kernel
theorem dX6_sealBlock_44 : decode cX6_sealBlock 44 = .ok (.aload_n 0, 1) := by decide +kernel
theorem dX6_sealBlock_45 : decode cX6_sealBlock 45 = .ok (.getfield 9, 3) := by decide +kernel
theorem dX6_sealBlock_48 : decode cX6_sealBlock 48 = .ok (.aload_n 0, 1) := by decide +kernel
theorem dX6_sealBlock_49 : decode cX6_sealBlock 49 = .ok (.getfield 15, 3) := by decide +kernel
theorem dX6_sealBlock_52 : decode cX6_sealBlock 52 = .ok (.iload_n 2, 1) := by decide +kernel
theorem dX6_sealBlock_53 : decode cX6_sealBlock 53 = .ok (.bipush 8, 2) := by decide +kernel
theorem dX6_sealBlock_55 : decode cX6_sealBlock 55 = .ok (.ishr, 1) := by decide +kernel
theorem dX6_sealBlock_56 : decode cX6_sealBlock 56 = .ok (.i2b, 1) := by decide +kernel
theorem dX6_sealBlock_57 : decode cX6_sealBlock 57 = .ok (.bastore, 1) := by decide +kernel
theorem dX6_sealBlock_58 : decode cX6_sealBlock 58 = .ok (.aload_n 0, 1) := by decide +kernel
theorem dX6_sealBlock_59 : decode cX6_sealBlock 59 = .ok (.getfield 9, 3) := by decide +kernel
theorem dX6_sealBlock_62 : decode cX6_sealBlock 62 = .ok (.aload_n 0, 1) := by decide +kernel
theorem dX6_sealBlock_63 : decode cX6_sealBlock 63 = .ok (.getfield 15, 3) := by decide +kernel
theorem dX6_sealBlock_66 : decode cX6_sealBlock 66 = .ok (.iconst 1, 1) := by decide +kernel
theorem dX6_sealBlock_67 : decode cX6_sealBlock 67 = .ok (.iadd, 1) := by decide +kernel
theorem dX6_sealBlock_68 : decode cX6_sealBlock 68 = .ok (.iload_n 2, 1) := by decide +kernel
theorem dX6_sealBlock_69 : decode cX6_sealBlock 69 = .ok (.i2b, 1) := by decide +kernel
theorem dX6_sealBlock_70 : decode cX6_sealBlock 70 = .ok (.bastore, 1) := by decide +kernel
theorem dX6_sealBlock_71 : decode cX6_sealBlock 71 = .ok (.aload_n 0, 1) := by decide +kernel
theorem dX6_sealBlock_72 : decode cX6_sealBlock 72 = .ok (.dup, 1) := by decide +kernel
theorem dX6_sealBlock_73 : decode cX6_sealBlock 73 = .ok (.getfield 15, 3) := by decide +kernel
theorem dX6_sealBlock_76 : decode cX6_sealBlock 76 = .ok (.iconst 2, 1) := by decide +kernel
theorem dX6_sealBlock_77 : decode cX6_sealBlock 77 = .ok (.iadd, 1) := by decide +kernel
theorem dX6_sealBlock_78 : decode cX6_sealBlock 78 = .ok (.putfield 15, 3) := by decide +kernel
theorem dX6_sealBlock_81 : decode cX6_sealBlock 81 = .ok (.return_, 1) := by decide +kernel
set_option maxRecDepth 20000 in
theorem ggX6_dataLength_X6_get : GoodIn wsX6_dataLength wsX6_get := goodIn_r _ [5, 6, 7, 8] (by decide +kernel) (by decide +kernel)
set_option maxRecDepth 20000 in
theorem gX6_dataLength_X6_get : GoodIn wsX6_dataLength (wsV RX6 19 RX6 yX6_get wsX6_get) := goodIn_app (goodIn_of _ (by decide +kernel)) ggX6_dataLength_X6_get
theorem dX6_dataLength_0 : decode cX6_dataLength 0 = .ok (.aload_n 0, 1) := by decide +kernel
theorem dX6_dataLength_1 : decode cX6_dataLength 1 = .ok (.iconst 0, 1) := by decide +kernel
theorem dX6_dataLength_2 : decode cX6_dataLength 2 = .ok (.invokevirtual 19, 3) := by decide +kernel
theorem dX6_dataLength_5 : decode cX6_dataLength 5 = .ok (.lookupswitch 35 #[(1, 27), (2, 31)], 27) := by decide +kernel
theorem dX6_dataLength_32 : decode cX6_dataLength 32 = .ok (.sipush 128, 3) := by decide +kernel
theorem dX6_dataLength_35 : decode cX6_dataLength 35 = .ok (.ireturn, 1) := by decide +kernel
theorem dX6_dataLength_36 : decode cX6_dataLength 36 = .ok (.sipush 1024, 3) := by decide +kernel
theorem dX6_dataLength_39 : decode cX6_dataLength 39 = .ok (.ireturn, 1) := by decide +kernel
theorem dX6_dataLength_40 : decode cX6_dataLength 40 = .ok (.iconst 0, 1) := by decide +kernel
theorem dX6_dataLength_41 : decode cX6_dataLength 41 = .ok (.ireturn, 1) := by decide +kernel
set_option maxRecDepth 20000 in
theorem ggX6_isRightBlock_X6_dataLength : GoodIn wsX6_isRightBlock wsX6_dataLength := goodIn_r _ [6, 7, 8, 9, 5, 10, 11, 21, 22] (by decide +kernel) (by decide +kernel)
set_option maxRecDepth 20000 in
theorem gX6_isRightBlock_X6_dataLength : GoodIn wsX6_isRightBlock (wsV RX6 35 RX6 yX6_dataLength wsX6_dataLength) := goodIn_app (goodIn_of _ (by decide +kernel)) ggX6_isRightBlock_X6_dataLength
set_option maxRecDepth 20000 in
theorem ggX6_isRightBlock_X6_get : GoodIn wsX6_isRightBlock wsX6_get := goodIn_r _ [10, 11, 21, 22] (by decide +kernel) (by decide +kernel)
set_option maxRecDepth 20000 in
theorem gX6_isRightBlock_X6_get : GoodIn wsX6_isRightBlock (wsV RX6 19 RX6 yX6_get wsX6_get) := goodIn_app (goodIn_of _ (by decide +kernel)) ggX6_isRightBlock_X6_get
set_option maxRecDepth 20000 in
theorem ggX6_isRightBlock_X6_sum : GoodIn wsX6_isRightBlock wsX6_sum := goodIn_r _ [15, 11, 21, 22] (by decide +kernel) (by decide +kernel)
set_option maxRecDepth 20000 in
theorem gX6_isRightBlock_X6_sum : GoodIn wsX6_isRightBlock (wsV RX6 29 RX6 yX6_sum wsX6_sum) := goodIn_app (goodIn_of _ (by decide +kernel)) ggX6_isRightBlock_X6_sum
set_option maxRecDepth 20000 in
theorem ggX6_isRightBlock_X6_crc : GoodIn wsX6_isRightBlock wsX6_crc := goodIn_r _ [19, 11, 20, 21, 22] (by decide +kernel) (by decide +kernel)
set_option maxRecDepth 20000 in
theorem gX6_isRightBlock_X6_crc : GoodIn wsX6_isRightBlock (wsV RX6 32 RX6 yX6_crc wsX6_crc) := goodIn_app (goodIn_of _ (by decide +kernel)) ggX6_isRightBlock_X6_crc
theorem dX6_isRightBlock_0 : decode cX6_isRightBlock 0 = .ok (.iconst 3, 1) := by decide +kernel
theorem dX6_isRightBlock_1 : decode cX6_isRightBlock 1 = .ok (.aload_n 0, 1) := by decide +kernel
theorem dX6_isRightBlock_2 : decode cX6_isRightBlock 2 = .ok (.invokevirtual 35, 3) := by decide +kernel
theorem dX6_isRightBlock_5 : decode cX6_isRightBlock 5 = .ok (.iadd, 1) := by decide +kernel
theorem dX6_isRightBlock_6 : decode cX6_isRightBlock 6 = .ok (.istore_n 2, 1) := by decide +kernel
theorem dX6_isRightBlock_7 : decode cX6_isRightBlock 7 = .ok (.iload_n 1, 1) := by decide +kernel
theorem dX6_isRightBlock_8 : decode cX6_isRightBlock 8 = .ok (.ifCond .ne 7, 3) := by decide +kernel
theorem dX6_isRightBlock_11 : decode cX6_isRightBlock 11 = .ok (.iconst 1, 1) := by decide +kernel
theorem dX6_isRightBlock_12 : decode cX6_isRightBlock 12 = .ok (.goto 4, 3) := by decide +kernel
theorem dX6_isRightBlock_15 : decode cX6_isRightBlock 15 = .ok (.iconst 2, 1) := by decide +kernel
theorem dX6_isRightBlock_16 : decode cX6_isRightBlock 16 = .ok (.istore_n 3, 1) := by decide +kernel
theorem dX6_isRightBlock_17 : decode cX6_isRightBlock 17 = .ok (.iload_n 2, 1) := by decide +kernel
theorem dX6_isRightBlock_18 : decode cX6_isRightBlock 18 = .ok (.iconst 3, 1) := by decide +kernel
theorem dX6_isRightBlock_19 : decode cX6_isRightBlock 19 = .ok (.if_icmp .eq 30, 3) := by decide +kernel
theorem dX6_isRightBlock_22 : decode cX6_isRightBlock 22 = .ok (.aload_n 0, 1) := by decide +kernel
theorem dX6_isRightBlock_23 : decode cX6_isRightBlock 23 = .ok (.getfield 15, 3) := by decide +kernel
theorem dX6_isRightBlock_26 : decode cX6_isRightBlock 26 = .ok (.iload_n 2, 1) := by decide +kernel
theorem dX6_isRightBlock_27 : decode cX6_isRightBlock 27 = .ok (.iload_n 3, 1) := by decide +kernel
theorem dX6_isRightBlock_28 : decode cX6_isRightBlock 28 = .ok (.iadd, 1) := by decide +kernel
theorem dX6_isRightBlock_29 : decode cX6_isRightBlock 29 = .ok (.if_icmp .ne 20, 3) := by decide +kernel
theorem dX6_isRightBlock_32 : decode cX6_isRightBlock 32 = .ok (.aload_n 0, 1) := by decide +kernel
theorem dX6_isRightBlock_33 : decode cX6_isRightBlock 33 = .ok (.iconst 1, 1) := by decide +kernel
theorem dX6_isRightBlock_34 : decode cX6_isRightBlock 34 = .ok (.invokevirtual 19, 3) := by decide +kernel
theorem dX6_isRightBlock_37 : decode cX6_isRightBlock 37 = .ok (.aload_n 0, 1) := by decide +kernel
theorem dX6_isRightBlock_38 : decode cX6_isRightBlock 38 = .ok (.iconst 2, 1) := by decide +kernel
theorem dX6_isRightBlock_39 : decode cX6_isRightBlock 39 = .ok (.invokevirtual 19, 3) := by decide +kernel
theorem dX6_isRightBlock_42 : decode cX6_isRightBlock 42 = .ok (.iadd, 1) := by decide +kernel
theorem dX6_isRightBlock_43 : decode cX6_isRightBlock 43 = .ok (.sipush 255, 3) := by decide +kernel
theorem dX6_isRightBlock_46 : decode cX6_isRightBlock 46 = .ok (.if_icmp .eq 5, 3) := by decide +kernel
theorem dX6_isRightBlock_49 : decode cX6_isRightBlock 49 = .ok (.iconst 0, 1) := by decide +kernel
theorem dX6_isRightBlock_50 : decode cX6_isRightBlock 50 = .ok (.ireturn, 1) := by decide +kernel
theorem dX6_isRightBlock_51 : decode cX6_isRightBlock 51 = .ok (.iload_n 1, 1) := by decide +kernel
theorem dX6_isRightBlock_52 : decode cX6_isRightBlock 52 = .ok (.ifCond .ne 22, 3) := by decide +kernel
theorem dX6_isRightBlock_55 : decode cX6_isRightBlock 55 = .ok (.aload_n 0, 1) := by decide +kernel
theorem dX6_isRightBlock_56 : decode cX6_isRightBlock 56 = .ok (.iload_n 2, 1) := by decide +kernel
theorem dX6_isRightBlock_57 : decode cX6_isRightBlock 57 = .ok (.invokevirtual 19, 3) := by decide +kernel
theorem dX6_isRightBlock_60 : decode cX6_isRightBlock 60 = .ok (.aload_n 0, 1) := by decide +kernel
theorem dX6_isRightBlock_61 : decode cX6_isRightBlock 61 = .ok (.iload_n 2, 1) := by decide +kernel
theorem dX6_isRightBlock_62 : decode cX6_isRightBlock 62 = .ok (.invokevirtual 29, 3) := by decide +kernel
theorem dX6_isRightBlock_65 : decode cX6_isRightBlock 65 = .ok (.if_icmp .ne 7, 3) := by decide +kernel
theorem dX6_isRightBlock_68 : decode cX6_isRightBlock 68 = .ok (.iconst 1, 1) := by decide +kernel
theorem dX6_isRightBlock_69 : decode cX6_isRightBlock 69 = .ok (.goto 4, 3) := by decide +kernel
theorem dX6_isRightBlock_72 : decode cX6_isRightBlock 72 = .ok (.iconst 0, 1) := by decide +kernel
theorem dX6_isRightBlock_73 : decode cX6_isRightBlock 73 = .ok (.ireturn, 1) := by decide +kernel
theorem dX6_isRightBlock_74 : decode cX6_isRightBlock 74 = .ok (.aload_n 0, 1) := by decide +kernel
theorem dX6_isRightBlock_75 : decode cX6_isRightBlock 75 = .ok (.iload_n 2, 1) := by decide +kernel
theorem dX6_isRightBlock_76 : decode cX6_isRightBlock 76 = .ok (.invokevirtual 19, 3) := by decide +kernel
theorem dX6_isRightBlock_79 : decode cX6_isRightBlock 79 = .ok (.bipush 8, 2) := by decide +kernel
theorem dX6_isRightBlock_81 : decode cX6_isRightBlock 81 = .ok (.ishl, 1) := by decide +kernel
theorem dX6_isRightBlock_82 : decode cX6_isRightBlock 82 = .ok (.aload_n 0, 1) := by decide +kernel
theorem dX6_isRightBlock_83 : decode cX6_isRightBlock 83 = .ok (.iload_n 2, 1) := by decide +kernel
theorem dX6_isRightBlock_84 : decode cX6_isRightBlock 84 = .ok (.iconst 1, 1) := by decide +kernel
theorem dX6_isRightBlock_85 : decode cX6_isRightBlock 85 = .ok (.iadd, 1) := by decide +kernel
theorem dX6_isRightBlock_86 : decode cX6_isRightBlock 86 = .ok (.invokevirtual 19, 3) := by decide +kernel
theorem dX6_isRightBlock_89 : decode cX6_isRightBlock 89 = .ok (.ior, 1) := by decide +kernel
theorem dX6_isRightBlock_90 : decode cX6_isRightBlock 90 = .ok (.aload_n 0, 1) := by decide +kernel
theorem dX6_isRightBlock_91 : decode cX6_isRightBlock 91 = .ok (.iload_n 2, 1) := by decide +kernel
theorem dX6_isRightBlock_92 : decode cX6_isRightBlock 92 = .ok (.invokevirtual 32, 3) := by decide +kernel
theorem dX6_isRightBlock_95 : decode cX6_isRightBlock 95 = .ok (.if_icmp .ne 7, 3) := by decide +kernel
theorem dX6_isRightBlock_98 : decode cX6_isRightBlock 98 = .ok (.iconst 1, 1) := by decide +kernel
theorem dX6_isRightBlock_99 : decode cX6_isRightBlock 99 = .ok (.goto 4, 3) := by decide +kernel
theorem dX6_isRightBlock_102 : decode cX6_isRightBlock 102 = .ok (.iconst 0, 1) := by decide +kernel
theorem dX6_isRightBlock_103 : decode cX6_isRightBlock 103 = .ok (.ireturn, 1) := by decide +kernel
theorem dX6_sum_0 : decode cX6_sum 0 = .ok (.iconst 0, 1) := by decide +kernel
theorem dX6_sum_1 : decode cX6_sum 1 = .ok (.istore_n 2, 1) := by decide +kernel
theorem dX6_sum_2 : decode cX6_sum 2 = .ok (.iconst 3, 1) := by decide +kernel
theorem dX6_sum_3 : decode cX6_sum 3 = .ok (.istore_n 3, 1) := by decide +kernel
theorem dX6_sum_4 : decode cX6_sum 4 = .ok (.iload_n 3, 1) := by decide +kernel
theorem dX6_sum_5 : decode cX6_sum 5 = .ok (.iload_n 1, 1) := by decide +kernel
theorem dX6_sum_6 : decode cX6_sum 6 = .ok (.if_icmp .ge 18, 3) := by decide +kernel
theorem dX6_sum_9 : decode cX6_sum 9 = .ok (.iload_n 2, 1) := by decide +kernel
theorem dX6_sum_10 : decode cX6_sum 10 = .ok (.aload_n 0, 1) := by decide +kernel
theorem dX6_sum_11 : decode cX6_sum 11 = .ok (.getfield 9, 3) := by decide +kernel
theorem dX6_sum_14 : decode cX6_sum 14 = .ok (.iload_n 3, 1) := by decide +kernel
theorem dX6_sum_15 : decode cX6_sum 15 = .ok (.baload, 1) := by decide +kernel
theorem dX6_sum_16 : decode cX6_sum 16 = .ok (.iadd, 1) := by decide +kernel
theorem dX6_sum_17 : decode cX6_sum 17 = .ok (.istore_n 2, 1) := by decide +kernel
theorem dX6_sum_18 : decode cX6_sum 18 = .ok (.iinc 3 1, 3) := by decide +kernel
theorem dX6_sum_21 : decode cX6_sum 21 = .ok (.goto (-17), 3) := by decide +kernel
theorem dX6_sum_24 : decode cX6_sum 24 = .ok (.iload_n 2, 1) := by decide +kernel
theorem dX6_sum_25 : decode cX6_sum 25 = .ok (.sipush 255, 3) := by decide +kernel
theorem dX6_sum_28 : decode cX6_sum 28 = .ok (.iand, 1) := by decide +kernel
theorem dX6_sum_29 : decode cX6_sum 29 = .ok (.ireturn, 1) := by decide +kernel
theorem dX6_crc_0 : decode cX6_crc 0 = .ok (.iconst 0, 1) := by decide +kernel
theorem dX6_crc_1 : decode cX6_crc 1 = .ok (.istore_n 2, 1) := by decide +kernel
theorem dX6_crc_2 : decode cX6_crc 2 = .ok (.iconst 3, 1) := by decide +kernel
theorem dX6_crc_3 : decode cX6_crc 3 = .ok (.istore_n 3, 1) := by decide +kernel
theorem dX6_crc_4 : decode cX6_crc 4 = .ok (.iload_n 3, 1) := by decide +kernel
theorem dX6_crc_5 : decode cX6_crc 5 = .ok (.iload_n 1, 1) := by decide +kernel
theorem dX6_crc_6 : decode cX6_crc 6 = .ok (.if_icmp .ge 57, 3) := by decide +kernel
theorem dX6_crc_9 : decode cX6_crc 9 = .ok (.iload_n 2, 1) := by decide +kernel
theorem dX6_crc_10 : decode cX6_crc 10 = .ok (.bipush 8, 2) := by decide +kernel
theorem dX6_crc_12 : decode cX6_crc 12 = .ok (.ishr, 1) := by decide +kernel
theorem dX6_crc_13 : decode cX6_crc 13 = .ok (.aload_n 0, 1) := by decide +kernel
theorem dX6_crc_14 : decode cX6_crc 14 = .ok (.getfield 9, 3) := by decide +kernel
theorem dX6_crc_17 : decode cX6_crc 17 = .ok (.iload_n 3, 1) := by decide +kernel
theorem dX6_crc_18 : decode cX6_crc 18 = .ok (.baload, 1) := by decide +kernel
theorem dX6_crc_19 : decode cX6_crc 19 = .ok (.sipush 255, 3) := by decide +kernel
theorem dX6_crc_22 : decode cX6_crc 22 = .ok (.iand, 1) := by decide +kernel
theorem dX6_crc_23 : decode cX6_crc 23 = .ok (.ixor, 1) := by decide +kernel
theorem dX6_crc_24 : decode cX6_crc 24 = .ok (.istore 4, 2) := by decide +kernel
theorem dX6_crc_26 : decode cX6_crc 26 = .ok (.iload 4, 2) := by decide +kernel
theorem dX6_crc_28 : decode cX6_crc 28 = .ok (.iload 4, 2) := by decide +kernel
theorem dX6_crc_30 : decode cX6_crc 30 = .ok (.iconst 4, 1) := by decide +kernel
theorem dX6_crc_31 : decode cX6_crc 31 = .ok (.ishr, 1) := by decide +kernel
theorem dX6_crc_32 : decode cX6_crc 32 = .ok (.ixor, 1) := by decide +kernel
theorem dX6_crc_33 : decode cX6_crc 33 = .ok (.istore 4, 2) := by decide +kernel
theorem dX6_crc_35 : decode cX6_crc 35 = .ok (.iload_n 2, 1) := by decide +kernel
theorem dX6_crc_36 : decode cX6_crc 36 = .ok (.bipush 8, 2) := by decide +kernel
theorem dX6_crc_38 : decode cX6_crc 38 = .ok (.ishl, 1) := by decide +kernel
theorem dX6_crc_39 : decode cX6_crc 39 = .ok (.iload 4, 2) := by decide +kernel
theorem dX6_crc_41 : decode cX6_crc 41 = .ok (.bipush 12, 2) := by decide +kernel
theorem dX6_crc_43 : decode cX6_crc 43 = .ok (.ishl, 1) := by decide +kernel
theorem dX6_crc_44 : decode cX6_crc 44 = .ok (.ixor, 1) := by decide +kernel
theorem dX6_crc_45 : decode cX6_crc 45 = .ok (.iload 4, 2) := by decide +kernel
theorem dX6_crc_47 : decode cX6_crc 47 = .ok (.iconst 5, 1) := by decide +kernel
theorem dX6_crc_48 : decode cX6_crc 48 = .ok (.ishl, 1) := by decide +kernel
theorem dX6_crc_49 : decode cX6_crc 49 = .ok (.ixor, 1) := by decide +kernel
theorem dX6_crc_50 : decode cX6_crc 50 = .ok (.iload 4, 2) := by decide +kernel
theorem dX6_crc_52 : decode cX6_crc 52 = .ok (.ixor, 1) := by decide +kernel
theorem dX6_crc_53 : decode cX6_crc 53 = .ok (.ldc 39, 2) := by decide +kernel
theorem dX6_crc_55 : decode cX6_crc 55 = .ok (.iand, 1) := by decide +kernel
theorem dX6_crc_56 : decode cX6_crc 56 = .ok (.istore_n 2, 1) := by decide +kernel
theorem dX6_crc_57 : decode cX6_crc 57 = .ok (.iinc 3 1, 3) := by decide +kernel
theorem dX6_crc_60 : decode cX6_crc 60 = .ok (.goto (-56), 3) := by decide +kernel
theorem dX6_crc_63 : decode cX6_crc 63 = .ok (.iload_n 2, 1) := by decide +kernel
theorem dX6_crc_64 : decode cX6_crc 64 = .ok (.ireturn, 1) := by decide +kernel
set_option maxRecDepth 20000 in
theorem ggX7_init_X4_init : GoodIn wsX7_init wsX4_init := goodIn_r _ [21, 22, 2, 3, 23, 24, 56, 57] (by decide +kernel) (by decide +kernel)
set_option maxRecDepth 20000 in
theorem gX7_init_X4_init_n11 : GoodIn wsX7_init (wsX4_init) := ggX7_init_X4_init
set_option maxRecDepth 20000 in
theorem ggX7_init_X6_init : GoodIn wsX7_init wsX6_init := goodIn_r _ [26, 27, 2, 3, 23, 28, 67, 68] (by decide +kernel) (by decide +kernel)
set_option maxRecDepth 20000 in
theorem gX7_init_X6_init_n18 : GoodIn wsX7_init (wsX6_init) := ggX7_init_X6_init
set_option maxRecDepth 20000 in
theorem ggX7_init_X1_init : GoodIn wsX7_init wsX1_init := goodIn_r _ [30, 31, 32, 33, 34, 35, 36, 37, 38, 39, 40, 2, 3, 41, 42, 43, 44, 23, 45, 46, 47, 48, 49, 50, 88, 89, 90, 91, 92, 93, 69, 70, 71, 72, 73, 74, 75, 76, 77, 78] (by decide +kernel) (by decide +kernel)
set_option maxRecDepth 20000 in
theorem gX7_init_X1_init_n25 : GoodIn wsX7_init (wsX1_init) := ggX7_init_X1_init
set_option maxRecDepth 20000 in
theorem ggX7_init_X0_init : GoodIn wsX7_init wsX0_init := goodIn_r _ [52, 53, 32, 33, 54, 37, 38, 39, 40, 2, 3, 55, 42, 43, 44, 23, 45, 46, 47, 48, 49, 50, 88, 89, 90, 91, 92, 93, 79, 80, 81, 82, 83, 84, 85, 86, 87] (by decide +kernel) (by decide +kernel)
set_option maxRecDepth 20000 in
theorem gX7_init_X0_init_n32 : GoodIn wsX7_init (wsX0_init) := ggX7_init_X0_init
theorem dX7_init_0 : decode cX7_init 0 = .ok (.aload_n 0, 1) := by decide +kernel
theorem dX7_init_1 : decode cX7_init 1 = .ok (.invokespecial 3, 3) := by decide +kernel
theorem dX7_init_4 : decode cX7_init 4 = .ok (.aload_n 0, 1) := by decide +kernel
theorem dX7_init_5 : decode cX7_init 5 = .ok (.new 9, 3) := by decide +kernel
theorem dX7_init_8 : decode cX7_init 8 = .ok (.dup, 1) := by decide +kernel
theorem dX7_init_9 : decode cX7_init 9 = .ok (.invokespecial 11, 3) := by decide +kernel
theorem dX7_init_12 : decode cX7_init 12 = .ok (.putfield 12, 3) := by decide +kernel
theorem dX7_init_15 : decode cX7_init 15 = .ok (.aload_n 0, 1) := by decide +kernel
theorem dX7_init_16 : decode cX7_init 16 = .ok (.new 16, 3) := by decide +kernel
theorem dX7_init_19 : decode cX7_init 19 = .ok (.dup, 1) := by decide +kernel
theorem dX7_init_20 : decode cX7_init 20 = .ok (.invokespecial 18, 3) := by decide +kernel
theorem dX7_init_23 : decode cX7_init 23 = .ok (.putfield 19, 3) := by decide +kernel
theorem dX7_init_26 : decode cX7_init 26 = .ok (.aload_n 0, 1) := by decide +kernel
theorem dX7_init_27 : decode cX7_init 27 = .ok (.new 23, 3) := by decide +kernel
theorem dX7_init_30 : decode cX7_init 30 = .ok (.dup, 1) := by decide +kernel
theorem dX7_init_31 : decode cX7_init 31 = .ok (.invokespecial 25, 3) := by decide +kernel
theorem dX7_init_34 : decode cX7_init 34 = .ok (.putfield 26, 3) := by decide +kernel
theorem dX7_init_37 : decode cX7_init 37 = .ok (.aload_n 0, 1) := by decide +kernel
theorem dX7_init_38 : decode cX7_init 38 = .ok (.new 30, 3) := by decide +kernel
theorem dX7_init_41 : decode cX7_init 41 = .ok (.dup, 1) := by decide +kernel
theorem dX7_init_42 : decode cX7_init 42 = .ok (.invokespecial 32, 3) := by decide +kernel
theorem dX7_init_45 : decode cX7_init 45 = .ok (.putfield 33, 3) := by decide +kernel
theorem dX7_init_48 : decode cX7_init 48 = .ok (.return_, 1) := by decide +kernel
set_option maxRecDepth 20000 in
theorem ggX7_feed_X4_append : GoodIn wsX7_feed wsX4_append := goodIn_r _ [7, 8, 9, 19, 20] (by decide +kernel) (by decide +kernel)
set_option maxRecDepth 20000 in
theorem gX7_feed_X4_append : GoodIn wsX7_feed (wsV RX7 41 RX4 yX4_append wsX4_append) := goodIn_app (goodIn_of _ (by decide +kernel)) ggX7_feed_X4_append
theorem dX7_feed_0 : decode cX7_feed 0 = .ok (.aload_n 0, 1) := by decide +kernel
theorem dX7_feed_1 : decode cX7_feed 1 = .ok (.getfield 12, 3) := by decide +kernel
theorem dX7_feed_4 : decode cX7_feed 4 = .ok (.getfield 37, 3) := by decide +kernel
theorem dX7_feed_7 : decode cX7_feed 7 = .ok (.bipush 20, 2) := by decide +kernel
theorem dX7_feed_9 : decode cX7_feed 9 = .ok (.iadd, 1) := by decide +kernel
theorem dX7_feed_10 : decode cX7_feed 10 = .ok (.sipush 3100, 3) := by decide +kernel
theorem dX7_feed_13 : decode cX7_feed 13 = .ok (.if_icmp .le 5, 3) := by decide +kernel
theorem dX7_feed_16 : decode cX7_feed 16 = .ok (.iconst 0, 1) := by decide +kernel
theorem dX7_feed_17 : decode cX7_feed 17 = .ok (.ireturn, 1) := by decide +kernel
theorem dX7_feed_18 : decode cX7_feed 18 = .ok (.aload_n 0, 1) := by decide +kernel
theorem dX7_feed_19 : decode cX7_feed 19 = .ok (.getfield 12, 3) := by decide +kernel
theorem dX7_feed_22 : decode cX7_feed 22 = .ok (.iload_n 1, 1) := by decide +kernel
theorem dX7_feed_23 : decode cX7_feed 23 = .ok (.invokevirtual 41, 3) := by decide +kernel
theorem dX7_feed_26 : decode cX7_feed 26 = .ok (.aload_n 0, 1) := by decide +kernel
theorem dX7_feed_27 : decode cX7_feed 27 = .ok (.getfield 12, 3) := by decide +kernel
theorem dX7_feed_30 : decode cX7_feed 30 = .ok (.iload_n 2, 1) := by decide +kernel
theorem dX7_feed_31 : decode cX7_feed 31 = .ok (.invokevirtual 41, 3) := by decide +kernel
theorem dX7_feed_34 : decode cX7_feed 34 = .ok (.aload_n 0, 1) := by decide +kernel
theorem dX7_feed_35 : decode cX7_feed 35 = .ok (.getfield 12, 3) := by decide +kernel
theorem dX7_feed_38 : decode cX7_feed 38 = .ok (.iload_n 3, 1) := by decide +kernel
theorem dX7_feed_39 : decode cX7_feed 39 = .ok (.invokevirtual 41, 3) := by decide +kernel
theorem dX7_feed_42 : decode cX7_feed 42 = .ok (.aload_n 0, 1) := by decide +kernel
theorem dX7_feed_43 : decode cX7_feed 43 = .ok (.getfield 12, 3) := by decide +kernel
theorem dX7_feed_46 : decode cX7_feed 46 = .ok (.iload 4, 2) := by decide +kernel
theorem dX7_feed_48 : decode cX7_feed 48 = .ok (.invokevirtual 41, 3) := by decide +kernel
theorem dX7_feed_51 : decode cX7_feed 51 = .ok (.aload_n 0, 1) := by decide +kernel
theorem dX7_feed_52 : decode cX7_feed 52 = .ok (.getfield 12, 3) := by decide +kernel
theorem dX7_feed_55 : decode cX7_feed 55 = .ok (.iload 5, 2) := by decide +kernel
theorem dX7_feed_57 : decode cX7_feed 57 = .ok (.invokevirtual 41, 3) := by decide +kernel
theorem dX7_feed_60 : decode cX7_feed 60 = .ok (.iconst 1, 1) := by decide +kernel
theorem dX7_feed_61 : decode cX7_feed 61 = .ok (.ireturn, 1) := by decide +kernel
theorem dX7_end_0 : decode cX7_end 0 = .ok (.iload_n 1, 1) := by decide +kernel
theorem dX7_end_1 : decode cX7_end 1 = .ok (.ifCond .lt 14, 3) := by decide +kernel
theorem dX7_end_4 : decode cX7_end 4 = .ok (.iload_n 1, 1) := by decide +kernel
theorem dX7_end_5 : decode cX7_end 5 = .ok (.aload_n 0, 1) := by decide +kernel
theorem dX7_end_6 : decode cX7_end 6 = .ok (.getfield 12, 3) := by decide +kernel
theorem dX7_end_9 : decode cX7_end 9 = .ok (.getfield 37, 3) := by decide +kernel
theorem dX7_end_12 : decode cX7_end 12 = .ok (.if_icmp .le 5, 3) := by decide +kernel
theorem dX7_end_15 : decode cX7_end 15 = .ok (.iconst 0, 1) := by decide +kernel
theorem dX7_end_16 : decode cX7_end 16 = .ok (.ireturn, 1) := by decide +kernel
theorem dX7_end_17 : decode cX7_end 17 = .ok (.aload_n 0, 1) := by decide +kernel
theorem dX7_end_18 : decode cX7_end 18 = .ok (.getfield 12, 3) := by decide +kernel
theorem dX7_end_21 : decode cX7_end 21 = .ok (.iload_n 1, 1) := by decide +kernel
theorem dX7_end_22 : decode cX7_end 22 = .ok (.putfield 37, 3) := by decide +kernel
theorem dX7_end_25 : decode cX7_end 25 = .ok (.iconst 1, 1) := by decide +kernel
theorem dX7_end_26 : decode cX7_end 26 = .ok (.ireturn, 1) := by decide +kernel
set_option maxRecDepth 20000 in
theorem ggX7_file_X4_nameLength : GoodIn wsX7_file wsX4_nameLength := goodIn_r _ [11, 12, 13, 57, 58] (by decide +kernel) (by decide +kernel)
set_option maxRecDepth 20000 in
theorem gX7_file_X4_nameLength : GoodIn wsX7_file (wsV RX7 45 RX4 yX4_nameLength wsX4_nameLength) := goodIn_app (goodIn_of _ (by decide +kernel)) ggX7_file_X4_nameLength
set_option maxRecDepth 20000 in
theorem ggX7_file_X7_mayAddFile : GoodIn wsX7_file wsX7_mayAddFile := goodIn_r _ [18, 3, 4, 6, 19, 20, 21, 17, 22, 23, 24, 48, 49, 50, 51, 52, 53, 54, 55, 56, 59, 60, 61, 62, 63, 64, 65, 66, 67, 68, 69, 70, 71, 72, 73, 74, 75, 76] (by decide +kernel) (by decide +kernel)
set_option maxRecDepth 20000 in
theorem gX7_file_X7_mayAddFile : GoodIn wsX7_file (wsV RX7 49 RX7 yX7_mayAddFile wsX7_mayAddFile) := goodIn_app (goodIn_of _ (by decide +kernel)) ggX7_file_X7_mayAddFile
set_option maxRecDepth 20000 in
theorem ggX7_file_X2_open : GoodIn wsX7_file wsX2_open := goodIn_r _ [29, 30, 31, 32, 33, 69, 70, 71, 72, 73, 74] (by decide +kernel) (by decide +kernel)
set_option maxRecDepth 20000 in
theorem gX7_file_X2_open : GoodIn wsX7_file (wsV RX7 57 RX2 yX2_open wsX2_open) := goodIn_app (goodIn_of _ (by decide +kernel)) ggX7_file_X2_open
set_option maxRecDepth 20000 in
theorem ggX7_file_X2_nameLast : GoodIn wsX7_file wsX2_nameLast := goodIn_r _ [37, 30, 38, 39, 40, 41, 42, 33, 69, 70, 71, 72, 73, 74] (by decide +kernel) (by decide +kernel)
set_option maxRecDepth 20000 in
theorem gX7_file_X2_nameLast : GoodIn wsX7_file (wsV RX7 66 RX2 yX2_nameLast wsX2_nameLast) := goodIn_app (goodIn_of _ (by decide +kernel)) ggX7_file_X2_nameLast
set_option maxRecDepth 20000 in
theorem ggX7_file_X2_extendLast : GoodIn wsX7_file wsX2_extendLast := goodIn_r _ [46, 30, 31, 32, 47, 39, 40, 41, 42, 69, 70, 71, 72, 73, 74] (by decide +kernel) (by decide +kernel)
set_option maxRecDepth 20000 in
theorem gX7_file_X2_extendLast : GoodIn wsX7_file (wsV RX7 70 RX2 yX2_extendLast wsX2_extendLast) := goodIn_app (goodIn_of _ (by decide +kernel)) ggX7_file_X2_extendLast
theorem dX7_file_0 : decode cX7_file 0 = .ok (.aload_n 0, 1) := by decide +kernel
theorem dX7_file_1 : decode cX7_file 1 = .ok (.getfield 12, 3) := by decide +kernel
theorem dX7_file_4 : decode cX7_file 4 = .ok (.invokevirtual 45, 3) := by decide +kernel
theorem dX7_file_7 : decode cX7_file 7 = .ok (.istore_n 1, 1) := by decide +kernel
theorem dX7_file_8 : decode cX7_file 8 = .ok (.iload_n 1, 1) := by decide +kernel
theorem dX7_file_9 : decode cX7_file 9 = .ok (.iconst 1, 1) := by decide +kernel
theorem dX7_file_10 : decode cX7_file 10 = .ok (.iadd, 1) := by decide +kernel
theorem dX7_file_11 : decode cX7_file 11 = .ok (.istore_n 2, 1) := by decide +kernel
theorem dX7_file_12 : decode cX7_file 12 = .ok (.aload_n 0, 1) := by decide +kernel
theorem dX7_file_13 : decode cX7_file 13 = .ok (.getfield 12, 3) := by decide +kernel
theorem dX7_file_16 : decode cX7_file 16 = .ok (.getfield 37, 3) := by decide +kernel
theorem dX7_file_19 : decode cX7_file 19 = .ok (.iload_n 2, 1) := by decide +kernel
theorem dX7_file_20 : decode cX7_file 20 = .ok (.isub, 1) := by decide +kernel
theorem dX7_file_21 : decode cX7_file 21 = .ok (.istore_n 3, 1) := by decide +kernel
theorem dX7_file_22 : decode cX7_file 22 = .ok (.iload_n 1, 1) := by decide +kernel
theorem dX7_file_23 : decode cX7_file 23 = .ok (.iconst (-1), 1) := by decide +kernel
theorem dX7_file_24 : decode cX7_file 24 = .ok (.if_icmp .eq 17, 3) := by decide +kernel
theorem dX7_file_27 : decode cX7_file 27 = .ok (.iload_n 3, 1) := by decide +kernel
theorem dX7_file_28 : decode cX7_file 28 = .ok (.sipush 3000, 3) := by decide +kernel
theorem dX7_file_31 : decode cX7_file 31 = .ok (.if_icmp .gt 10, 3) := by decide +kernel
theorem dX7_file_34 : decode cX7_file 34 = .ok (.aload_n 0, 1) := by decide +kernel
theorem dX7_file_35 : decode cX7_file 35 = .ok (.invokevirtual 49, 3) := by decide +kernel
theorem dX7_file_38 : decode cX7_file 38 = .ok (.ifCond .ne 5, 3) := by decide +kernel
theorem dX7_file_41 : decode cX7_file 41 = .ok (.iconst (-1), 1) := by decide +kernel
theorem dX7_file_42 : decode cX7_file 42 = .ok (.ireturn, 1) := by decide +kernel
theorem dX7_file_43 : decode cX7_file 43 = .ok (.aload_n 0, 1) := by decide +kernel
theorem dX7_file_44 : decode cX7_file 44 = .ok (.getfield 26, 3) := by decide +kernel
theorem dX7_file_47 : decode cX7_file 47 = .ok (.getfield 53, 3) := by decide +kernel
theorem dX7_file_50 : decode cX7_file 50 = .ok (.astore 4, 2) := by decide +kernel
theorem dX7_file_52 : decode cX7_file 52 = .ok (.aload 4, 2) := by decide +kernel
theorem dX7_file_54 : decode cX7_file 54 = .ok (.invokevirtual 57, 3) := by decide +kernel
theorem dX7_file_57 : decode cX7_file 57 = .ok (.aload 4, 2) := by decide +kernel
theorem dX7_file_59 : decode cX7_file 59 = .ok (.aload_n 0, 1) := by decide +kernel
theorem dX7_file_60 : decode cX7_file 60 = .ok (.getfield 12, 3) := by decide +kernel
theorem dX7_file_63 : decode cX7_file 63 = .ok (.getfield 62, 3) := by decide +kernel
theorem dX7_file_66 : decode cX7_file 66 = .ok (.iconst 0, 1) := by decide +kernel
theorem dX7_file_67 : decode cX7_file 67 = .ok (.iload_n 1, 1) := by decide +kernel
theorem dX7_file_68 : decode cX7_file 68 = .ok (.invokevirtual 66, 3) := by decide +kernel
theorem dX7_file_71 : decode cX7_file 71 = .ok (.aload 4, 2) := by decide +kernel
theorem dX7_file_73 : decode cX7_file 73 = .ok (.aload_n 0, 1) := by decide +kernel
theorem dX7_file_74 : decode cX7_file 74 = .ok (.getfield 12, 3) := by decide +kernel
theorem dX7_file_77 : decode cX7_file 77 = .ok (.getfield 62, 3) := by decide +kernel
theorem dX7_file_80 : decode cX7_file 80 = .ok (.iload_n 2, 1) := by decide +kernel
theorem dX7_file_81 : decode cX7_file 81 = .ok (.iload_n 3, 1) := by decide +kernel
theorem dX7_file_82 : decode cX7_file 82 = .ok (.invokevirtual 70, 3) := by decide +kernel
theorem dX7_file_85 : decode cX7_file 85 = .ok (.aload_n 0, 1) := by decide +kernel
theorem dX7_file_86 : decode cX7_file 86 = .ok (.getfield 12, 3) := by decide +kernel
theorem dX7_file_89 : decode cX7_file 89 = .ok (.iconst 0, 1) := by decide +kernel
theorem dX7_file_90 : decode cX7_file 90 = .ok (.putfield 37, 3) := by decide +kernel
theorem dX7_file_93 : decode cX7_file 93 = .ok (.aload 4, 2) := by decide +kernel
theorem dX7_file_95 : decode cX7_file 95 = .ok (.getfield 73, 3) := by decide +kernel
theorem dX7_file_98 : decode cX7_file 98 = .ok (.iconst 1, 1) := by decide +kernel
theorem dX7_file_99 : decode cX7_file 99 = .ok (.isub, 1) := by decide +kernel
theorem dX7_file_100 : decode cX7_file 100 = .ok (.ireturn, 1) := by decide +kernel
set_option maxRecDepth 20000 in
theorem ggX7_made_X7_mayAddFile : GoodIn wsX7_made wsX7_mayAddFile := goodIn_r _ [8, 1, 2, 3, 9, 10, 11, 7, 12, 13, 14, 34, 35, 36, 37, 38, 39, 40, 41, 42, 43, 44, 45, 46, 47, 48, 49, 50, 51, 52, 53, 54, 55, 56, 57, 58, 59, 60] (by decide +kernel) (by decide +kernel)
set_option maxRecDepth 20000 in
theorem gX7_made_X7_mayAddFile : GoodIn wsX7_made (wsV RX7 49 RX7 yX7_mayAddFile wsX7_mayAddFile) := goodIn_app (goodIn_of _ (by decide +kernel)) ggX7_made_X7_mayAddFile
set_option maxRecDepth 20000 in
theorem ggX7_made_X2_open : GoodIn wsX7_made wsX2_open := goodIn_r _ [19, 20, 21, 22, 23, 53, 54, 55, 56, 57, 58] (by decide +kernel) (by decide +kernel)
set_option maxRecDepth 20000 in
theorem gX7_made_X2_open : GoodIn wsX7_made (wsV RX7 57 RX2 yX2_open wsX2_open) := goodIn_app (goodIn_of _ (by decide +kernel)) ggX7_made_X2_open
set_option maxRecDepth 20000 in
theorem ggX7_made_X2_nameLastByLetter : GoodIn wsX7_made wsX2_nameLastByLetter := goodIn_r _ [27, 20, 28, 23, 53, 54, 55, 56, 57, 58] (by decide +kernel) (by decide +kernel)
set_option maxRecDepth 20000 in
theorem gX7_made_X2_nameLastByLetter : GoodIn wsX7_made (wsV RX7 76 RX2 yX2_nameLastByLetter wsX2_nameLastByLetter) := goodIn_app (goodIn_of _ (by decide +kernel)) ggX7_made_X2_nameLastByLetter
set_option maxRecDepth 20000 in
theorem ggX7_made_X2_extendLastByOne : GoodIn wsX7_made wsX2_extendLastByOne := goodIn_r _ [32, 20, 21, 22, 33, 53, 54, 55, 56, 57, 58] (by decide +kernel) (by decide +kernel)
set_option maxRecDepth 20000 in
theorem gX7_made_X2_extendLastByOne : GoodIn wsX7_made (wsV RX7 80 RX2 yX2_extendLastByOne wsX2_extendLastByOne) := goodIn_app (goodIn_of _ (by decide +kernel)) ggX7_made_X2_extendLastByOne
theorem dX7_made_0 : decode cX7_made 0 = .ok (.iload_n 1, 1) := by decide +kernel
theorem dX7_made_1 : decode cX7_made 1 = .ok (.ifCond .lt 17, 3) := by decide +kernel
theorem dX7_made_4 : decode cX7_made 4 = .ok (.iload_n 1, 1) := by decide +kernel
theorem dX7_made_5 : decode cX7_made 5 = .ok (.sipush 3000, 3) := by decide +kernel
theorem dX7_made_8 : decode cX7_made 8 = .ok (.if_icmp .gt 10, 3) := by decide +kernel
theorem dX7_made_11 : decode cX7_made 11 = .ok (.aload_n 0, 1) := by decide +kernel
theorem dX7_made_12 : decode cX7_made 12 = .ok (.invokevirtual 49, 3) := by decide +kernel
theorem dX7_made_15 : decode cX7_made 15 = .ok (.ifCond .ne 5, 3) := by decide +kernel
theorem dX7_made_18 : decode cX7_made 18 = .ok (.iconst (-1), 1) := by decide +kernel
theorem dX7_made_19 : decode cX7_made 19 = .ok (.ireturn, 1) := by decide +kernel
theorem dX7_made_20 : decode cX7_made 20 = .ok (.aload_n 0, 1) := by decide +kernel
theorem dX7_made_21 : decode cX7_made 21 = .ok (.getfield 26, 3) := by decide +kernel
theorem dX7_made_24 : decode cX7_made 24 = .ok (.getfield 53, 3) := by decide +kernel
theorem dX7_made_27 : decode cX7_made 27 = .ok (.astore_n 3, 1) := by decide +kernel
theorem dX7_made_28 : decode cX7_made 28 = .ok (.aload_n 3, 1) := by decide +kernel
theorem dX7_made_29 : decode cX7_made 29 = .ok (.invokevirtual 57, 3) := by decide +kernel
theorem dX7_made_32 : decode cX7_made 32 = .ok (.aload_n 3, 1) := by decide +kernel
theorem dX7_made_33 : decode cX7_made 33 = .ok (.bipush 102, 2) := by decide +kernel
theorem dX7_made_35 : decode cX7_made 35 = .ok (.invokevirtual 76, 3) := by decide +kernel
theorem dX7_made_38 : decode cX7_made 38 = .ok (.iconst 0, 1) := by decide +kernel
theorem dX7_made_39 : decode cX7_made 39 = .ok (.istore 4, 2) := by decide +kernel
theorem dX7_made_41 : decode cX7_made 41 = .ok (.iload 4, 2) := by decide +kernel
theorem dX7_made_43 : decode cX7_made 43 = .ok (.iload_n 1, 1) := by decide +kernel
theorem dX7_made_44 : decode cX7_made 44 = .ok (.if_icmp .ge 19, 3) := by decide +kernel
theorem dX7_made_47 : decode cX7_made 47 = .ok (.aload_n 3, 1) := by decide +kernel
theorem dX7_made_48 : decode cX7_made 48 = .ok (.iload_n 2, 1) := by decide +kernel
theorem dX7_made_49 : decode cX7_made 49 = .ok (.iconst 5, 1) := by decide +kernel
theorem dX7_made_50 : decode cX7_made 50 = .ok (.iload 4, 2) := by decide +kernel
theorem dX7_made_52 : decode cX7_made 52 = .ok (.imul, 1) := by decide +kernel
theorem dX7_made_53 : decode cX7_made 53 = .ok (.iadd, 1) := by decide +kernel
theorem dX7_made_54 : decode cX7_made 54 = .ok (.invokevirtual 80, 3) := by decide +kernel
theorem dX7_made_57 : decode cX7_made 57 = .ok (.iinc 4 1, 3) := by decide +kernel
theorem dX7_made_60 : decode cX7_made 60 = .ok (.goto (-19), 3) := by decide +kernel
theorem dX7_made_63 : decode cX7_made 63 = .ok (.aload_n 3, 1) := by decide +kernel
theorem dX7_made_64 : decode cX7_made 64 = .ok (.getfield 73, 3) := by decide +kernel
theorem dX7_made_67 : decode cX7_made 67 = .ok (.iconst 1, 1) := by decide +kernel
theorem dX7_made_68 : decode cX7_made 68 = .ok (.isub, 1) := by decide +kernel
theorem dX7_made_69 : decode cX7_made 69 = .ok (.ireturn, 1) := by decide +kernel
set_option maxRecDepth 20000 in
theorem ggX7_clear_X7_isOn : GoodIn wsX7_clear wsX7_isOn := goodIn_r _ [8, 9, 10, 11, 12, 13, 14, 15, 16, 17, 18, 19, 36, 37] (by decide +kernel) (by decide +kernel)
set_option maxRecDepth 20000 in
theorem gX7_clear_X7_isOn : GoodIn wsX7_clear (wsV RX7 83 RX7 yX7_isOn wsX7_isOn) := goodIn_app (goodIn_of _ (by decide +kernel)) ggX7_clear_X7_isOn
theorem dX7_clear_0 : decode cX7_clear 0 = .ok (.aload_n 0, 1) := by decide +kernel
theorem dX7_clear_1 : decode cX7_clear 1 = .ok (.invokevirtual 83, 3) := by decide +kernel
theorem dX7_clear_4 : decode cX7_clear 4 = .ok (.ifCond .eq 5, 3) := by decide +kernel
theorem dX7_clear_7 : decode cX7_clear 7 = .ok (.iconst 0, 1) := by decide +kernel
theorem dX7_clear_8 : decode cX7_clear 8 = .ok (.ireturn, 1) := by decide +kernel
theorem dX7_clear_9 : decode cX7_clear 9 = .ok (.aload_n 0, 1) := by decide +kernel
theorem dX7_clear_10 : decode cX7_clear 10 = .ok (.getfield 26, 3) := by decide +kernel
theorem dX7_clear_13 : decode cX7_clear 13 = .ok (.getfield 53, 3) := by decide +kernel
theorem dX7_clear_16 : decode cX7_clear 16 = .ok (.iconst 0, 1) := by decide +kernel
theorem dX7_clear_17 : decode cX7_clear 17 = .ok (.putfield 73, 3) := by decide +kernel
theorem dX7_clear_20 : decode cX7_clear 20 = .ok (.iconst 1, 1) := by decide +kernel
theorem dX7_clear_21 : decode cX7_clear 21 = .ok (.ireturn, 1) := by decide +kernel
set_option maxRecDepth 20000 in
theorem ggX7_begin_X1_prepare : GoodIn wsX7_begin wsX1_prepare := goodIn_r _ [12, 13, 14, 15, 16, 17, 18, 19, 20, 21, 22, 23, 24, 25, 26, 27, 28, 11, 29, 30, 31, 32, 33, 34, 35, 36, 37, 38, 39, 40, 41, 42, 43, 44, 45, 95, 96, 97, 98, 99, 100, 101, 102, 103, 104, 111, 112, 113, 114, 115, 116, 117, 118, 119, 105, 106, 107, 108, 109, 110] (by decide +kernel) (by decide +kernel)
set_option maxRecDepth 20000 in
theorem gX7_begin_X1_prepare : GoodIn wsX7_begin (wsV RX7 86 RX1 yX1_prepare wsX1_prepare) := goodIn_app (goodIn_of _ (by decide +kernel)) ggX7_begin_X1_prepare
set_option maxRecDepth 20000 in
theorem ggX7_begin_X0_prepare : GoodIn wsX7_begin wsX0_prepare := goodIn_r _ [50, 51, 52, 53, 54, 55, 56, 57, 20, 21, 22, 23, 24, 25, 58, 59, 60, 49, 61, 62, 63, 64, 65, 66, 43, 67, 45, 68, 69, 70, 71, 72, 73, 74, 111, 112, 113, 114, 115, 116, 117, 118, 119, 105, 106, 107, 108, 109, 110, 95, 96, 97, 98, 99, 100, 101, 102, 103, 104] (by decide +kernel) (by decide +kernel)
set_option maxRecDepth 20000 in
theorem gX7_begin_X0_prepare : GoodIn wsX7_begin (wsV RX7 89 RX0 yX0_prepare wsX0_prepare) := goodIn_app (goodIn_of _ (by decide +kernel)) ggX7_begin_X0_prepare
set_option maxRecDepth 20000 in
theorem ggX7_begin_X7_askOf : GoodIn wsX7_begin wsX7_askOf := goodIn_r _ [78] (by decide +kernel) (by decide +kernel)
set_option maxRecDepth 20000 in
theorem gX7_begin_X7_askOf : GoodIn wsX7_begin (va_wsS RX7 90 yX7_askOf wsX7_askOf) := goodIn_app (goodIn_of _ (by decide +kernel)) ggX7_begin_X7_askOf
set_option maxRecDepth 20000 in
theorem ggX7_begin_X6_putByte : GoodIn wsX7_begin wsX6_putByte := goodIn_r _ [83, 84, 85, 120, 121] (by decide +kernel) (by decide +kernel)
set_option maxRecDepth 20000 in
theorem gX7_begin_X6_putByte : GoodIn wsX7_begin (wsV RX7 94 RX6 yX6_putByte wsX6_putByte) := goodIn_app (goodIn_of _ (by decide +kernel)) ggX7_begin_X6_putByte
theorem dX7_begin_0 : decode cX7_begin 0 = .ok (.aload_n 0, 1) := by decide +kernel
theorem dX7_begin_1 : decode cX7_begin 1 = .ok (.getfield 26, 3) := by decide +kernel
theorem dX7_begin_4 : decode cX7_begin 4 = .ok (.getfield 53, 3) := by decide +kernel
theorem dX7_begin_7 : decode cX7_begin 7 = .ok (.getfield 73, 3) := by decide +kernel
end
section
theorem dX7_begin_10 : decode cX7_begin 10 = .ok (.ifCond .eq 12, 3) := by decide +kernel
theorem dX7_begin_13 : decode cX7_begin 13 = .ok (.iload_n 1, 1) := by decide +kernel
theorem dX7_begin_14 : decode cX7_begin 14 = .ok (.ifCond .lt 8, 3) := by decide +kernel
theorem dX7_begin_17 : decode cX7_begin 17 = .ok (.iload_n 1, 1) := by decide +kernel
theorem dX7_begin_18 : decode cX7_begin 18 = .ok (.iconst 3, 1) := by decide +kernel
theorem dX7_begin_19 : decode cX7_begin 19 = .ok (.if_icmp .le 5, 3) := by decide +kernel
theorem dX7_begin_22 : decode cX7_begin 22 = .ok (.iconst 0, 1) := by decide +kernel
theorem dX7_begin_23 : decode cX7_begin 23 = .ok (.ireturn, 1) := by decide +kernel
theorem dX7_begin_24 : decode cX7_begin 24 = .ok (.aload_n 0, 1) := by decide +kernel
theorem dX7_begin_25 : decode cX7_begin 25 = .ok (.getfield 26, 3) := by decide +kernel
theorem dX7_begin_28 : decode cX7_begin 28 = .ok (.iload_n 1, 1) := by decide +kernel
theorem dX7_begin_29 : decode cX7_begin 29 = .ok (.invokevirtual 86, 3) := by decide +kernel
theorem dX7_begin_32 : decode cX7_begin 32 = .ok (.aload_n 0, 1) := by decide +kernel
theorem dX7_begin_33 : decode cX7_begin 33 = .ok (.getfield 33, 3) := by decide +kernel
theorem dX7_begin_36 : decode cX7_begin 36 = .ok (.iload_n 1, 1) := by decide +kernel
theorem dX7_begin_37 : decode cX7_begin 37 = .ok (.invokevirtual 89, 3) := by decide +kernel
theorem dX7_begin_40 : decode cX7_begin 40 = .ok (.aload_n 0, 1) := by decide +kernel
theorem dX7_begin_41 : decode cX7_begin 41 = .ok (.getfield 19, 3) := by decide +kernel
theorem dX7_begin_44 : decode cX7_begin 44 = .ok (.iload_n 1, 1) := by decide +kernel
theorem dX7_begin_45 : decode cX7_begin 45 = .ok (.invokestatic 90, 3) := by decide +kernel
theorem dX7_begin_48 : decode cX7_begin 48 = .ok (.invokevirtual 94, 3) := by decide +kernel
theorem dX7_begin_51 : decode cX7_begin 51 = .ok (.aload_n 0, 1) := by decide +kernel
theorem dX7_begin_52 : decode cX7_begin 52 = .ok (.iconst 1, 1) := by decide +kernel
theorem dX7_begin_53 : decode cX7_begin 53 = .ok (.putfield 97, 3) := by decide +kernel
theorem dX7_begin_56 : decode cX7_begin 56 = .ok (.aload_n 0, 1) := by decide +kernel
theorem dX7_begin_57 : decode cX7_begin 57 = .ok (.iconst 1, 1) := by decide +kernel
theorem dX7_begin_58 : decode cX7_begin 58 = .ok (.putfield 101, 3) := by decide +kernel
theorem dX7_begin_61 : decode cX7_begin 61 = .ok (.iconst 1, 1) := by decide +kernel
theorem dX7_begin_62 : decode cX7_begin 62 = .ok (.ireturn, 1) := by decide +kernel
theorem dX7_spoil_0 : decode cX7_spoil 0 = .ok (.aload_n 0, 1) := by decide +kernel
theorem dX7_spoil_1 : decode cX7_spoil 1 = .ok (.iconst 1, 1) := by decide +kernel
theorem dX7_spoil_2 : decode cX7_spoil 2 = .ok (.putfield 104, 3) := by decide +kernel
theorem dX7_spoil_5 : decode cX7_spoil 5 = .ok (.aload_n 0, 1) := by decide +kernel
theorem dX7_spoil_6 : decode cX7_spoil 6 = .ok (.iload_n 1, 1) := by decide +kernel
theorem dX7_spoil_7 : decode cX7_spoil 7 = .ok (.putfield 107, 3) := by decide +kernel
theorem dX7_spoil_10 : decode cX7_spoil 10 = .ok (.aload_n 0, 1) := by decide +kernel
theorem dX7_spoil_11 : decode cX7_spoil 11 = .ok (.iload_n 2, 1) := by decide +kernel
theorem dX7_spoil_12 : decode cX7_spoil 12 = .ok (.sipush 255, 3) := by decide +kernel
theorem dX7_spoil_15 : decode cX7_spoil 15 = .ok (.iand, 1) := by decide +kernel
theorem dX7_spoil_16 : decode cX7_spoil 16 = .ok (.putfield 110, 3) := by decide +kernel
theorem dX7_spoil_19 : decode cX7_spoil 19 = .ok (.return_, 1) := by decide +kernel
set_option maxRecDepth 20000 in
theorem ggX7_step_X7_isOn : GoodIn wsX7_step wsX7_isOn := goodIn_r _ [9, 3, 10, 263, 264, 265, 266, 267, 268, 269, 270, 271, 272, 273] (by decide +kernel) (by decide +kernel)
set_option maxRecDepth 20000 in
theorem gX7_step_X7_isOn : GoodIn wsX7_step (wsV RX7 83 RX7 yX7_isOn wsX7_isOn) := goodIn_app (goodIn_of _ (by decide +kernel)) ggX7_step_X7_isOn
set_option maxRecDepth 20000 in
theorem ggX7_step_X7_spoilWire : GoodIn wsX7_step wsX7_spoilWire := goodIn_r _ [14, 15, 16, 3, 17, 18, 19, 20, 21, 22, 23, 24, 25, 26, 27, 28, 29, 30, 31, 32, 263, 264, 265, 266, 267, 268, 269, 270, 271, 272, 273] (by decide +kernel) (by decide +kernel)
set_option maxRecDepth 20000 in
theorem gX7_step_X7_spoilWire : GoodIn wsX7_step (wsV RX7 113 RX7 yX7_spoilWire wsX7_spoilWire) := goodIn_app (goodIn_of _ (by decide +kernel)) ggX7_step_X7_spoilWire
set_option maxRecDepth 20000 in
theorem ggX7_step_X3_hear : GoodIn wsX7_step wsX3_hear := goodIn_r _ [38, 39, 40, 19, 20, 21, 22, 23, 41, 42, 43, 44, 45, 46, 47, 48, 28, 49, 50, 51, 52, 53, 54, 55, 56, 57, 58, 59, 60, 61, 62, 63, 64, 65, 66, 67, 68, 69, 70, 71, 72, 73, 74, 75, 76, 77, 78, 79, 80, 81, 82, 83, 84, 85, 86, 87, 88, 89, 90, 91, 92, 93, 94, 95, 96, 97, 98, 99, 100, 101, 102, 103, 104, 105, 106, 107, 108, 109, 110, 111, 112, 113, 114, 115, 116, 117, 118, 119, 120, 121, 122, 123, 124, 125, 126, 127, 128, 129, 130, 131, 132, 133, 134, 135, 136, 137, 138, 139, 140, 141, 142, 143, 37, 144, 145, 146, 147, 148, 149, 150, 151, 152, 153, 154, 155, 156, 157, 158, 159, 160, 161, 162, 163, 164, 165, 166, 167, 168, 169, 170, 171, 172, 173, 8, 174, 175, 176, 177, 178, 179, 180, 181, 182, 183, 184, 185, 186, 187, 188, 189, 190, 191, 192, 193, 194, 195, 196, 197, 198, 199, 200, 201, 202, 203, 204, 205, 206, 207, 208, 209, 210, 211, 212, 213, 214, 215, 216, 217, 218, 219, 220, 221, 222, 223, 224, 225, 226, 227, 228, 229, 230, 231, 232, 233, 234, 235, 236, 237, 238, 239, 240, 241, 242, 243, 244, 245, 246, 247, 248, 249, 250, 251, 252, 253, 254, 255, 256, 257, 258, 274, 275, 276, 277, 278, 279, 280, 281, 282, 283, 284, 285, 286, 287, 288, 289, 290, 291, 292, 272, 273, 293, 294, 295, 296, 297, 298] (by decide +kernel) (by decide +kernel)
set_option maxRecDepth 20000 in
theorem gX7_step_X3_hear_u116X1 : GoodIn wsX7_step (va_wsU RX7 116 RX1 "BatchTransfer$Side" ⟨"BatchTransfer$Sender", "hear", "(LBatchTransfer$Wire;)V"⟩ yX3_hear wsX3_hear) := goodIn_app (goodIn_of _ (by decide +kernel)) ggX7_step_X3_hear
set_option maxRecDepth 20000 in
theorem gX7_step_X3_hear_u120X0 : GoodIn wsX7_step (va_wsU RX7 120 RX0 "BatchTransfer$Side" ⟨"BatchTransfer$Receiver", "hear", "(LBatchTransfer$Wire;)V"⟩ yX3_hear wsX3_hear) := goodIn_app (goodIn_of _ (by decide +kernel)) ggX7_step_X3_hear
set_option maxRecDepth 20000 in
theorem ggX7_step_X6_get : GoodIn wsX7_step wsX6_get := goodIn_r _ [48, 28, 272, 273] (by decide +kernel) (by decide +kernel)
set_option maxRecDepth 20000 in
theorem gX7_step_X6_get : GoodIn wsX7_step (wsV RX7 121 RX6 yX6_get wsX6_get) := goodIn_app (goodIn_of _ (by decide +kernel)) ggX7_step_X6_get
theorem dX7_step_0 : decode cX7_step 0 = .ok (.aload_n 0, 1) := by decide +kernel
theorem dX7_step_1 : decode cX7_step 1 = .ok (.invokevirtual 83, 3) := by decide +kernel
theorem dX7_step_4 : decode cX7_step 4 = .ok (.ifCond .ne 5, 3) := by decide +kernel
theorem dX7_step_7 : decode cX7_step 7 = .ok (.iconst (-1), 1) := by decide +kernel
theorem dX7_step_8 : decode cX7_step 8 = .ok (.ireturn, 1) := by decide +kernel
theorem dX7_step_9 : decode cX7_step 9 = .ok (.aload_n 0, 1) := by decide +kernel
theorem dX7_step_10 : decode cX7_step 10 = .ok (.invokevirtual 113, 3) := by decide +kernel
theorem dX7_step_13 : decode cX7_step 13 = .ok (.aload_n 0, 1) := by decide +kernel
theorem dX7_step_14 : decode cX7_step 14 = .ok (.getfield 97, 3) := by decide +kernel
theorem dX7_step_17 : decode cX7_step 17 = .ok (.ifCond .eq 17, 3) := by decide +kernel
theorem dX7_step_20 : decode cX7_step 20 = .ok (.aload_n 0, 1) := by decide +kernel
theorem dX7_step_21 : decode cX7_step 21 = .ok (.getfield 26, 3) := by decide +kernel
theorem dX7_step_24 : decode cX7_step 24 = .ok (.aload_n 0, 1) := by decide +kernel
theorem dX7_step_25 : decode cX7_step 25 = .ok (.getfield 19, 3) := by decide +kernel
theorem dX7_step_28 : decode cX7_step 28 = .ok (.invokevirtual 116, 3) := by decide +kernel
theorem dX7_step_31 : decode cX7_step 31 = .ok (.goto 14, 3) := by decide +kernel
theorem dX7_step_34 : decode cX7_step 34 = .ok (.aload_n 0, 1) := by decide +kernel
theorem dX7_step_35 : decode cX7_step 35 = .ok (.getfield 33, 3) := by decide +kernel
theorem dX7_step_38 : decode cX7_step 38 = .ok (.aload_n 0, 1) := by decide +kernel
theorem dX7_step_39 : decode cX7_step 39 = .ok (.getfield 19, 3) := by decide +kernel
theorem dX7_step_42 : decode cX7_step 42 = .ok (.invokevirtual 120, 3) := by decide +kernel
theorem dX7_step_45 : decode cX7_step 45 = .ok (.aload_n 0, 1) := by decide +kernel
theorem dX7_step_46 : decode cX7_step 46 = .ok (.aload_n 0, 1) := by decide +kernel
theorem dX7_step_47 : decode cX7_step 47 = .ok (.getfield 97, 3) := by decide +kernel
theorem dX7_step_50 : decode cX7_step 50 = .ok (.ifCond .ne 7, 3) := by decide +kernel
theorem dX7_step_53 : decode cX7_step 53 = .ok (.iconst 1, 1) := by decide +kernel
theorem dX7_step_54 : decode cX7_step 54 = .ok (.goto 4, 3) := by decide +kernel
theorem dX7_step_57 : decode cX7_step 57 = .ok (.iconst 0, 1) := by decide +kernel
theorem dX7_step_58 : decode cX7_step 58 = .ok (.putfield 97, 3) := by decide +kernel
theorem dX7_step_61 : decode cX7_step 61 = .ok (.aload_n 0, 1) := by decide +kernel
theorem dX7_step_62 : decode cX7_step 62 = .ok (.invokevirtual 83, 3) := by decide +kernel
theorem dX7_step_65 : decode cX7_step 65 = .ok (.ifCond .eq 14, 3) := by decide +kernel
theorem dX7_step_68 : decode cX7_step 68 = .ok (.aload_n 0, 1) := by decide +kernel
theorem dX7_step_69 : decode cX7_step 69 = .ok (.getfield 19, 3) := by decide +kernel
theorem dX7_step_72 : decode cX7_step 72 = .ok (.iconst 0, 1) := by decide +kernel
theorem dX7_step_73 : decode cX7_step 73 = .ok (.invokevirtual 121, 3) := by decide +kernel
theorem dX7_step_76 : decode cX7_step 76 = .ok (.goto 4, 3) := by decide +kernel
theorem dX7_step_79 : decode cX7_step 79 = .ok (.iconst (-1), 1) := by decide +kernel
theorem dX7_step_80 : decode cX7_step 80 = .ok (.ireturn, 1) := by decide +kernel
theorem dX7_line_0 : decode cX7_line 0 = .ok (.aload_n 0, 1) := by decide +kernel
theorem dX7_line_1 : decode cX7_line 1 = .ok (.getfield 19, 3) := by decide +kernel
theorem dX7_line_4 : decode cX7_line 4 = .ok (.getfield 124, 3) := by decide +kernel
theorem dX7_line_7 : decode cX7_line 7 = .ok (.ireturn, 1) := by decide +kernel
set_option maxRecDepth 20000 in
theorem ggX7_lineAt_X6_get : GoodIn wsX7_lineAt wsX6_get := goodIn_r _ [9, 10, 20, 21] (by decide +kernel) (by decide +kernel)
set_option maxRecDepth 20000 in
theorem gX7_lineAt_X6_get : GoodIn wsX7_lineAt (wsV RX7 121 RX6 yX6_get wsX6_get) := goodIn_app (goodIn_of _ (by decide +kernel)) ggX7_lineAt_X6_get
theorem dX7_lineAt_0 : decode cX7_lineAt 0 = .ok (.iload_n 1, 1) := by decide +kernel
theorem dX7_lineAt_1 : decode cX7_lineAt 1 = .ok (.ifCond .lt 14, 3) := by decide +kernel
theorem dX7_lineAt_4 : decode cX7_lineAt 4 = .ok (.iload_n 1, 1) := by decide +kernel
theorem dX7_lineAt_5 : decode cX7_lineAt 5 = .ok (.aload_n 0, 1) := by decide +kernel
theorem dX7_lineAt_6 : decode cX7_lineAt 6 = .ok (.getfield 19, 3) := by decide +kernel
theorem dX7_lineAt_9 : decode cX7_lineAt 9 = .ok (.getfield 124, 3) := by decide +kernel
theorem dX7_lineAt_12 : decode cX7_lineAt 12 = .ok (.if_icmp .lt 11, 3) := by decide +kernel
theorem dX7_lineAt_15 : decode cX7_lineAt 15 = .ok (.new 125, 3) := by decide +kernel
theorem dX7_lineAt_18 : decode cX7_lineAt 18 = .ok (.dup, 1) := by decide +kernel
theorem dX7_lineAt_19 : decode cX7_lineAt 19 = .ok (.invokespecial 127, 3) := by decide +kernel
theorem dX7_lineAt_22 : decode cX7_lineAt 22 = .ok (.athrow, 1) := by decide +kernel
theorem dX7_lineAt_23 : decode cX7_lineAt 23 = .ok (.aload_n 0, 1) := by decide +kernel
theorem dX7_lineAt_24 : decode cX7_lineAt 24 = .ok (.getfield 19, 3) := by decide +kernel
theorem dX7_lineAt_27 : decode cX7_lineAt 27 = .ok (.iload_n 1, 1) := by decide +kernel
theorem dX7_lineAt_28 : decode cX7_lineAt 28 = .ok (.invokevirtual 121, 3) := by decide +kernel
theorem dX7_lineAt_31 : decode cX7_lineAt 31 = .ok (.ireturn, 1) := by decide +kernel
theorem dX7_state_0 : decode cX7_state 0 = .ok (.aload_n 0, 1) := by decide +kernel
theorem dX7_state_1 : decode cX7_state 1 = .ok (.getfield 101, 3) := by decide +kernel
theorem dX7_state_4 : decode cX7_state 4 = .ok (.ifCond .ne 5, 3) := by decide +kernel
theorem dX7_state_7 : decode cX7_state 7 = .ok (.iconst (-1), 1) := by decide +kernel
theorem dX7_state_8 : decode cX7_state 8 = .ok (.ireturn, 1) := by decide +kernel
theorem dX7_state_9 : decode cX7_state 9 = .ok (.iload_n 1, 1) := by decide +kernel
theorem dX7_state_10 : decode cX7_state 10 = .ok (.lookupswitch 42 #[(0, 26), (1, 34)], 26) := by decide +kernel
theorem dX7_state_36 : decode cX7_state 36 = .ok (.aload_n 0, 1) := by decide +kernel
theorem dX7_state_37 : decode cX7_state 37 = .ok (.getfield 26, 3) := by decide +kernel
theorem dX7_state_40 : decode cX7_state 40 = .ok (.getfield 128, 3) := by decide +kernel
theorem dX7_state_43 : decode cX7_state 43 = .ok (.ireturn, 1) := by decide +kernel
theorem dX7_state_44 : decode cX7_state 44 = .ok (.aload_n 0, 1) := by decide +kernel
theorem dX7_state_45 : decode cX7_state 45 = .ok (.getfield 33, 3) := by decide +kernel
theorem dX7_state_48 : decode cX7_state 48 = .ok (.getfield 131, 3) := by decide +kernel
theorem dX7_state_51 : decode cX7_state 51 = .ok (.ireturn, 1) := by decide +kernel
theorem dX7_state_52 : decode cX7_state 52 = .ok (.iconst (-1), 1) := by decide +kernel
theorem dX7_state_53 : decode cX7_state 53 = .ok (.ireturn, 1) := by decide +kernel
theorem dX7_received_0 : decode cX7_received 0 = .ok (.aload_n 0, 1) := by decide +kernel
theorem dX7_received_1 : decode cX7_received 1 = .ok (.getfield 33, 3) := by decide +kernel
theorem dX7_received_4 : decode cX7_received 4 = .ok (.getfield 132, 3) := by decide +kernel
theorem dX7_received_7 : decode cX7_received 7 = .ok (.getfield 73, 3) := by decide +kernel
theorem dX7_received_10 : decode cX7_received 10 = .ok (.ireturn, 1) := by decide +kernel
set_option maxRecDepth 20000 in
theorem ggX7_size_X2_has : GoodIn wsX7_size wsX2_has := goodIn_r _ [8, 9, 28, 29, 30, 31, 32, 33] (by decide +kernel) (by decide +kernel)
set_option maxRecDepth 20000 in
theorem gX7_size_X2_has : GoodIn wsX7_size (wsV RX7 135 RX2 yX2_has wsX2_has) := goodIn_app (goodIn_of _ (by decide +kernel)) ggX7_size_X2_has
theorem dX7_size_0 : decode cX7_size 0 = .ok (.aload_n 0, 1) := by decide +kernel
theorem dX7_size_1 : decode cX7_size 1 = .ok (.getfield 33, 3) := by decide +kernel
theorem dX7_size_4 : decode cX7_size 4 = .ok (.getfield 132, 3) := by decide +kernel
theorem dX7_size_7 : decode cX7_size 7 = .ok (.iload_n 1, 1) := by decide +kernel
theorem dX7_size_8 : decode cX7_size 8 = .ok (.invokevirtual 135, 3) := by decide +kernel
theorem dX7_size_11 : decode cX7_size 11 = .ok (.ifCond .eq 18, 3) := by decide +kernel
theorem dX7_size_14 : decode cX7_size 14 = .ok (.aload_n 0, 1) := by decide +kernel
theorem dX7_size_15 : decode cX7_size 15 = .ok (.getfield 33, 3) := by decide +kernel
theorem dX7_size_18 : decode cX7_size 18 = .ok (.getfield 132, 3) := by decide +kernel
theorem dX7_size_21 : decode cX7_size 21 = .ok (.getfield 139, 3) := by decide +kernel
theorem dX7_size_24 : decode cX7_size 24 = .ok (.iload_n 1, 1) := by decide +kernel
theorem dX7_size_25 : decode cX7_size 25 = .ok (.iaload, 1) := by decide +kernel
theorem dX7_size_26 : decode cX7_size 26 = .ok (.goto 4, 3) := by decide +kernel
theorem dX7_size_29 : decode cX7_size 29 = .ok (.iconst (-1), 1) := by decide +kernel
theorem dX7_size_30 : decode cX7_size 30 = .ok (.ireturn, 1) := by decide +kernel
set_option maxRecDepth 20000 in
theorem ggX7_byteAt_X2_has : GoodIn wsX7_byteAt wsX2_has := goodIn_r _ [12, 13, 32, 33, 34, 35, 36, 37] (by decide +kernel) (by decide +kernel)
set_option maxRecDepth 20000 in
theorem gX7_byteAt_X2_has : GoodIn wsX7_byteAt (wsV RX7 135 RX2 yX2_has wsX2_has) := goodIn_app (goodIn_of _ (by decide +kernel)) ggX7_byteAt_X2_has
theorem dX7_byteAt_0 : decode cX7_byteAt 0 = .ok (.aload_n 0, 1) := by decide +kernel
theorem dX7_byteAt_1 : decode cX7_byteAt 1 = .ok (.getfield 33, 3) := by decide +kernel
theorem dX7_byteAt_4 : decode cX7_byteAt 4 = .ok (.getfield 132, 3) := by decide +kernel
theorem dX7_byteAt_7 : decode cX7_byteAt 7 = .ok (.astore_n 3, 1) := by decide +kernel
theorem dX7_byteAt_8 : decode cX7_byteAt 8 = .ok (.aload_n 3, 1) := by decide +kernel
theorem dX7_byteAt_9 : decode cX7_byteAt 9 = .ok (.iload_n 1, 1) := by decide +kernel
theorem dX7_byteAt_10 : decode cX7_byteAt 10 = .ok (.invokevirtual 135, 3) := by decide +kernel
theorem dX7_byteAt_13 : decode cX7_byteAt 13 = .ok (.ifCond .eq 17, 3) := by decide +kernel
theorem dX7_byteAt_16 : decode cX7_byteAt 16 = .ok (.iload_n 2, 1) := by decide +kernel
theorem dX7_byteAt_17 : decode cX7_byteAt 17 = .ok (.ifCond .lt 13, 3) := by decide +kernel
theorem dX7_byteAt_20 : decode cX7_byteAt 20 = .ok (.iload_n 2, 1) := by decide +kernel
theorem dX7_byteAt_21 : decode cX7_byteAt 21 = .ok (.aload_n 3, 1) := by decide +kernel
theorem dX7_byteAt_22 : decode cX7_byteAt 22 = .ok (.getfield 139, 3) := by decide +kernel
theorem dX7_byteAt_25 : decode cX7_byteAt 25 = .ok (.iload_n 1, 1) := by decide +kernel
theorem dX7_byteAt_26 : decode cX7_byteAt 26 = .ok (.iaload, 1) := by decide +kernel
theorem dX7_byteAt_27 : decode cX7_byteAt 27 = .ok (.if_icmp .lt 11, 3) := by decide +kernel
theorem dX7_byteAt_30 : decode cX7_byteAt 30 = .ok (.new 125, 3) := by decide +kernel
theorem dX7_byteAt_33 : decode cX7_byteAt 33 = .ok (.dup, 1) := by decide +kernel
theorem dX7_byteAt_34 : decode cX7_byteAt 34 = .ok (.invokespecial 127, 3) := by decide +kernel
theorem dX7_byteAt_37 : decode cX7_byteAt 37 = .ok (.athrow, 1) := by decide +kernel
theorem dX7_byteAt_38 : decode cX7_byteAt 38 = .ok (.aload_n 3, 1) := by decide +kernel
theorem dX7_byteAt_39 : decode cX7_byteAt 39 = .ok (.getfield 143, 3) := by decide +kernel
theorem dX7_byteAt_42 : decode cX7_byteAt 42 = .ok (.aload_n 3, 1) := by decide +kernel
theorem dX7_byteAt_43 : decode cX7_byteAt 43 = .ok (.getfield 146, 3) := by decide +kernel
theorem dX7_byteAt_46 : decode cX7_byteAt 46 = .ok (.iload_n 1, 1) := by decide +kernel
theorem dX7_byteAt_47 : decode cX7_byteAt 47 = .ok (.iaload, 1) := by decide +kernel
theorem dX7_byteAt_48 : decode cX7_byteAt 48 = .ok (.iload_n 2, 1) := by decide +kernel
theorem dX7_byteAt_49 : decode cX7_byteAt 49 = .ok (.iadd, 1) := by decide +kernel
theorem dX7_byteAt_50 : decode cX7_byteAt 50 = .ok (.baload, 1) := by decide +kernel
theorem dX7_byteAt_51 : decode cX7_byteAt 51 = .ok (.sipush 255, 3) := by decide +kernel
theorem dX7_byteAt_54 : decode cX7_byteAt 54 = .ok (.iand, 1) := by decide +kernel
theorem dX7_byteAt_55 : decode cX7_byteAt 55 = .ok (.ireturn, 1) := by decide +kernel
set_option maxRecDepth 20000 in
theorem ggX7_nameAt_X2_has : GoodIn wsX7_nameAt wsX2_has := goodIn_r _ [9, 10, 29, 30, 31, 32, 33, 34] (by decide +kernel) (by decide +kernel)
set_option maxRecDepth 20000 in
theorem gX7_nameAt_X2_has : GoodIn wsX7_nameAt (wsV RX7 135 RX2 yX2_has wsX2_has) := goodIn_app (goodIn_of _ (by decide +kernel)) ggX7_nameAt_X2_has
theorem dX7_nameAt_0 : decode cX7_nameAt 0 = .ok (.aload_n 0, 1) := by decide +kernel
theorem dX7_nameAt_1 : decode cX7_nameAt 1 = .ok (.getfield 33, 3) := by decide +kernel
theorem dX7_nameAt_4 : decode cX7_nameAt 4 = .ok (.getfield 132, 3) := by decide +kernel
theorem dX7_nameAt_7 : decode cX7_nameAt 7 = .ok (.astore_n 3, 1) := by decide +kernel
theorem dX7_nameAt_8 : decode cX7_nameAt 8 = .ok (.aload_n 3, 1) := by decide +kernel
theorem dX7_nameAt_9 : decode cX7_nameAt 9 = .ok (.iload_n 1, 1) := by decide +kernel
theorem dX7_nameAt_10 : decode cX7_nameAt 10 = .ok (.invokevirtual 135, 3) := by decide +kernel
theorem dX7_nameAt_13 : decode cX7_nameAt 13 = .ok (.ifCond .eq 17, 3) := by decide +kernel
theorem dX7_nameAt_16 : decode cX7_nameAt 16 = .ok (.iload_n 2, 1) := by decide +kernel
theorem dX7_nameAt_17 : decode cX7_nameAt 17 = .ok (.ifCond .lt 13, 3) := by decide +kernel
theorem dX7_nameAt_20 : decode cX7_nameAt 20 = .ok (.iload_n 2, 1) := by decide +kernel
theorem dX7_nameAt_21 : decode cX7_nameAt 21 = .ok (.aload_n 3, 1) := by decide +kernel
theorem dX7_nameAt_22 : decode cX7_nameAt 22 = .ok (.getfield 149, 3) := by decide +kernel
theorem dX7_nameAt_25 : decode cX7_nameAt 25 = .ok (.iload_n 1, 1) := by decide +kernel
theorem dX7_nameAt_26 : decode cX7_nameAt 26 = .ok (.iaload, 1) := by decide +kernel
theorem dX7_nameAt_27 : decode cX7_nameAt 27 = .ok (.if_icmp .lt 5, 3) := by decide +kernel
theorem dX7_nameAt_30 : decode cX7_nameAt 30 = .ok (.iconst (-1), 1) := by decide +kernel
theorem dX7_nameAt_31 : decode cX7_nameAt 31 = .ok (.ireturn, 1) := by decide +kernel
theorem dX7_nameAt_32 : decode cX7_nameAt 32 = .ok (.aload_n 3, 1) := by decide +kernel
theorem dX7_nameAt_33 : decode cX7_nameAt 33 = .ok (.getfield 152, 3) := by decide +kernel
theorem dX7_nameAt_36 : decode cX7_nameAt 36 = .ok (.iload_n 1, 1) := by decide +kernel
theorem dX7_nameAt_37 : decode cX7_nameAt 37 = .ok (.bipush 12, 2) := by decide +kernel
theorem dX7_nameAt_39 : decode cX7_nameAt 39 = .ok (.imul, 1) := by decide +kernel
theorem dX7_nameAt_40 : decode cX7_nameAt 40 = .ok (.iload_n 2, 1) := by decide +kernel
theorem dX7_nameAt_41 : decode cX7_nameAt 41 = .ok (.iadd, 1) := by decide +kernel
theorem dX7_nameAt_42 : decode cX7_nameAt 42 = .ok (.baload, 1) := by decide +kernel
theorem dX7_nameAt_43 : decode cX7_nameAt 43 = .ok (.sipush 255, 3) := by decide +kernel
theorem dX7_nameAt_46 : decode cX7_nameAt 46 = .ok (.iand, 1) := by decide +kernel
theorem dX7_nameAt_47 : decode cX7_nameAt 47 = .ok (.ireturn, 1) := by decide +kernel
theorem dX7_isOn_0 : decode cX7_isOn 0 = .ok (.aload_n 0, 1) := by decide +kernel
theorem dX7_isOn_1 : decode cX7_isOn 1 = .ok (.getfield 19, 3) := by decide +kernel
theorem dX7_isOn_4 : decode cX7_isOn 4 = .ok (.getfield 124, 3) := by decide +kernel
theorem dX7_isOn_7 : decode cX7_isOn 7 = .ok (.ifCond .le 7, 3) := by decide +kernel
theorem dX7_isOn_10 : decode cX7_isOn 10 = .ok (.iconst 1, 1) := by decide +kernel
theorem dX7_isOn_11 : decode cX7_isOn 11 = .ok (.goto 4, 3) := by decide +kernel
theorem dX7_isOn_14 : decode cX7_isOn 14 = .ok (.iconst 0, 1) := by decide +kernel
theorem dX7_isOn_15 : decode cX7_isOn 15 = .ok (.ireturn, 1) := by decide +kernel
set_option maxRecDepth 20000 in
theorem ggX7_mayAddFile_X7_isOn : GoodIn wsX7_mayAddFile wsX7_isOn := goodIn_r _ [8, 9, 10, 11, 12, 13, 14, 15, 16, 17, 18, 19, 36, 37] (by decide +kernel) (by decide +kernel)
set_option maxRecDepth 20000 in
theorem gX7_mayAddFile_X7_isOn : GoodIn wsX7_mayAddFile (wsV RX7 83 RX7 yX7_isOn wsX7_isOn) := goodIn_app (goodIn_of _ (by decide +kernel)) ggX7_mayAddFile_X7_isOn
theorem dX7_mayAddFile_0 : decode cX7_mayAddFile 0 = .ok (.aload_n 0, 1) := by decide +kernel
theorem dX7_mayAddFile_1 : decode cX7_mayAddFile 1 = .ok (.getfield 26, 3) := by decide +kernel
theorem dX7_mayAddFile_4 : decode cX7_mayAddFile 4 = .ok (.getfield 53, 3) := by decide +kernel
theorem dX7_mayAddFile_7 : decode cX7_mayAddFile 7 = .ok (.getfield 73, 3) := by decide +kernel
theorem dX7_mayAddFile_10 : decode cX7_mayAddFile 10 = .ok (.bipush 8, 2) := by decide +kernel
theorem dX7_mayAddFile_12 : decode cX7_mayAddFile 12 = .ok (.if_icmp .ge 14, 3) := by decide +kernel
theorem dX7_mayAddFile_15 : decode cX7_mayAddFile 15 = .ok (.aload_n 0, 1) := by decide +kernel
theorem dX7_mayAddFile_16 : decode cX7_mayAddFile 16 = .ok (.invokevirtual 83, 3) := by decide +kernel
theorem dX7_mayAddFile_19 : decode cX7_mayAddFile 19 = .ok (.ifCond .ne 7, 3) := by decide +kernel
theorem dX7_mayAddFile_22 : decode cX7_mayAddFile 22 = .ok (.iconst 1, 1) := by decide +kernel
theorem dX7_mayAddFile_23 : decode cX7_mayAddFile 23 = .ok (.goto 4, 3) := by decide +kernel
theorem dX7_mayAddFile_26 : decode cX7_mayAddFile 26 = .ok (.iconst 0, 1) := by decide +kernel
theorem dX7_mayAddFile_27 : decode cX7_mayAddFile 27 = .ok (.ireturn, 1) := by decide +kernel
set_option maxRecDepth 20000 in
theorem ggX7_spoilWire_X6_empty : GoodIn wsX7_spoilWire wsX6_empty := goodIn_r _ [9, 10, 29, 30] (by decide +kernel) (by decide +kernel)
set_option maxRecDepth 20000 in
theorem gX7_spoilWire_X6_empty : GoodIn wsX7_spoilWire (wsV RX7 155 RX6 yX6_empty wsX6_empty) := goodIn_app (goodIn_of _ (by decide +kernel)) ggX7_spoilWire_X6_empty
set_option maxRecDepth 20000 in
theorem ggX7_spoilWire_X6_damage : GoodIn wsX7_spoilWire wsX6_damage := goodIn_r _ [14, 10, 15, 16, 17, 18, 19, 29, 30] (by decide +kernel) (by decide +kernel)
set_option maxRecDepth 20000 in
theorem gX7_spoilWire_X6_damage : GoodIn wsX7_spoilWire (wsV RX7 158 RX6 yX6_damage wsX6_damage) := goodIn_app (goodIn_of _ (by decide +kernel)) ggX7_spoilWire_X6_damage
theorem dX7_spoilWire_0 : decode cX7_spoilWire 0 = .ok (.aload_n 0, 1) := by decide +kernel
theorem dX7_spoilWire_1 : decode cX7_spoilWire 1 = .ok (.getfield 104, 3) := by decide +kernel
theorem dX7_spoilWire_4 : decode cX7_spoilWire 4 = .ok (.ifCond .ne 4, 3) := by decide +kernel
theorem dX7_spoilWire_7 : decode cX7_spoilWire 7 = .ok (.return_, 1) := by decide +kernel
theorem dX7_spoilWire_8 : decode cX7_spoilWire 8 = .ok (.aload_n 0, 1) := by decide +kernel
theorem dX7_spoilWire_9 : decode cX7_spoilWire 9 = .ok (.iconst 0, 1) := by decide +kernel
theorem dX7_spoilWire_10 : decode cX7_spoilWire 10 = .ok (.putfield 104, 3) := by decide +kernel
theorem dX7_spoilWire_13 : decode cX7_spoilWire 13 = .ok (.aload_n 0, 1) := by decide +kernel
theorem dX7_spoilWire_14 : decode cX7_spoilWire 14 = .ok (.getfield 110, 3) := by decide +kernel
theorem dX7_spoilWire_17 : decode cX7_spoilWire 17 = .ok (.ifCond .ne 13, 3) := by decide +kernel
theorem dX7_spoilWire_20 : decode cX7_spoilWire 20 = .ok (.aload_n 0, 1) := by decide +kernel
theorem dX7_spoilWire_21 : decode cX7_spoilWire 21 = .ok (.getfield 19, 3) := by decide +kernel
theorem dX7_spoilWire_24 : decode cX7_spoilWire 24 = .ok (.invokevirtual 155, 3) := by decide +kernel
theorem dX7_spoilWire_27 : decode cX7_spoilWire 27 = .ok (.goto 18, 3) := by decide +kernel
theorem dX7_spoilWire_30 : decode cX7_spoilWire 30 = .ok (.aload_n 0, 1) := by decide +kernel
theorem dX7_spoilWire_31 : decode cX7_spoilWire 31 = .ok (.getfield 19, 3) := by decide +kernel
theorem dX7_spoilWire_34 : decode cX7_spoilWire 34 = .ok (.aload_n 0, 1) := by decide +kernel
theorem dX7_spoilWire_35 : decode cX7_spoilWire 35 = .ok (.getfield 107, 3) := by decide +kernel
theorem dX7_spoilWire_38 : decode cX7_spoilWire 38 = .ok (.aload_n 0, 1) := by decide +kernel
theorem dX7_spoilWire_39 : decode cX7_spoilWire 39 = .ok (.getfield 110, 3) := by decide +kernel
theorem dX7_spoilWire_42 : decode cX7_spoilWire 42 = .ok (.invokevirtual 158, 3) := by decide +kernel
theorem dX7_spoilWire_45 : decode cX7_spoilWire 45 = .ok (.return_, 1) := by decide +kernel
theorem dX7_askOf_0 : decode cX7_askOf 0 = .ok (.iload_n 0, 1) := by decide +kernel
theorem dX7_askOf_1 : decode cX7_askOf 1 = .ok (.ifCond .ne 8, 3) := by decide +kernel
theorem dX7_askOf_4 : decode cX7_askOf 4 = .ok (.bipush 21, 2) := by decide +kernel
theorem dX7_askOf_6 : decode cX7_askOf 6 = .ok (.goto 5, 3) := by decide +kernel
theorem dX7_askOf_9 : decode cX7_askOf 9 = .ok (.bipush 67, 2) := by decide +kernel
theorem dX7_askOf_11 : decode cX7_askOf 11 = .ok (.ireturn, 1) := by decide +kernel
theorem dX8_init_0 : decode cX8_init 0 = .ok (.aload_n 0, 1) := by decide +kernel
theorem dX8_init_1 : decode cX8_init 1 = .ok (.invokespecial 1, 3) := by decide +kernel
theorem dX8_init_4 : decode cX8_init 4 = .ok (.aload_n 0, 1) := by decide +kernel
theorem dX8_init_5 : decode cX8_init 5 = .ok (.iconst 0, 1) := by decide +kernel
theorem dX8_init_6 : decode cX8_init 6 = .ok (.putfield 7, 3) := by decide +kernel
theorem dX8_init_9 : decode cX8_init 9 = .ok (.aload_n 0, 1) := by decide +kernel
theorem dX8_init_10 : decode cX8_init 10 = .ok (.bipush 16, 2) := by decide +kernel
theorem dX8_init_12 : decode cX8_init 12 = .ok (.newarray .int, 2) := by decide +kernel
theorem dX8_init_14 : decode cX8_init 14 = .ok (.putfield 13, 3) := by decide +kernel
theorem dX8_init_17 : decode cX8_init 17 = .ok (.aload_n 0, 1) := by decide +kernel
theorem dX8_init_18 : decode cX8_init 18 = .ok (.sipush 3100, 3) := by decide +kernel
theorem dX8_init_21 : decode cX8_init 21 = .ok (.newarray .byte, 2) := by decide +kernel
theorem dX8_init_23 : decode cX8_init 23 = .ok (.putfield 17, 3) := by decide +kernel
theorem dX8_init_26 : decode cX8_init 26 = .ok (.aload_n 0, 1) := by decide +kernel
theorem dX8_init_27 : decode cX8_init 27 = .ok (.iconst 0, 1) := by decide +kernel
theorem dX8_init_28 : decode cX8_init 28 = .ok (.putfield 21, 3) := by decide +kernel
theorem dX8_init_31 : decode cX8_init 31 = .ok (.aload_n 0, 1) := by decide +kernel
theorem dX8_init_32 : decode cX8_init 32 = .ok (.iconst 0, 1) := by decide +kernel
theorem dX8_init_33 : decode cX8_init 33 = .ok (.putfield 24, 3) := by decide +kernel
theorem dX8_init_36 : decode cX8_init 36 = .ok (.aload_n 0, 1) := by decide +kernel
theorem dX8_init_37 : decode cX8_init 37 = .ok (.bipush 96, 2) := by decide +kernel
theorem dX8_init_39 : decode cX8_init 39 = .ok (.newarray .byte, 2) := by decide +kernel
theorem dX8_init_41 : decode cX8_init 41 = .ok (.putfield 27, 3) := by decide +kernel
theorem dX8_init_44 : decode cX8_init 44 = .ok (.aload_n 0, 1) := by decide +kernel
theorem dX8_init_45 : decode cX8_init 45 = .ok (.bipush 8, 2) := by decide +kernel
theorem dX8_init_47 : decode cX8_init 47 = .ok (.newarray .int, 2) := by decide +kernel
theorem dX8_init_49 : decode cX8_init 49 = .ok (.putfield 30, 3) := by decide +kernel
theorem dX8_init_52 : decode cX8_init 52 = .ok (.aload_n 0, 1) := by decide +kernel
theorem dX8_init_53 : decode cX8_init 53 = .ok (.sipush 24000, 3) := by decide +kernel
theorem dX8_init_56 : decode cX8_init 56 = .ok (.newarray .byte, 2) := by decide +kernel
theorem dX8_init_58 : decode cX8_init 58 = .ok (.putfield 33, 3) := by decide +kernel
theorem dX8_init_61 : decode cX8_init 61 = .ok (.aload_n 0, 1) := by decide +kernel
theorem dX8_init_62 : decode cX8_init 62 = .ok (.bipush 8, 2) := by decide +kernel
theorem dX8_init_64 : decode cX8_init 64 = .ok (.newarray .int, 2) := by decide +kernel
theorem dX8_init_66 : decode cX8_init 66 = .ok (.putfield 36, 3) := by decide +kernel
theorem dX8_init_69 : decode cX8_init 69 = .ok (.aload_n 0, 1) := by decide +kernel
theorem dX8_init_70 : decode cX8_init 70 = .ok (.iconst 0, 1) := by decide +kernel
theorem dX8_init_71 : decode cX8_init 71 = .ok (.putfield 39, 3) := by decide +kernel
theorem dX8_init_74 : decode cX8_init 74 = .ok (.aload_n 0, 1) := by decide +kernel
theorem dX8_init_75 : decode cX8_init 75 = .ok (.sipush 300, 3) := by decide +kernel
theorem dX8_init_78 : decode cX8_init 78 = .ok (.newarray .int, 2) := by decide +kernel
theorem dX8_init_80 : decode cX8_init 80 = .ok (.putfield 42, 3) := by decide +kernel
theorem dX8_init_83 : decode cX8_init 83 = .ok (.aload_n 0, 1) := by decide +kernel
theorem dX8_init_84 : decode cX8_init 84 = .ok (.sipush 300, 3) := by decide +kernel
theorem dX8_init_87 : decode cX8_init 87 = .ok (.newarray .int, 2) := by decide +kernel
theorem dX8_init_89 : decode cX8_init 89 = .ok (.putfield 45, 3) := by decide +kernel
theorem dX8_init_92 : decode cX8_init 92 = .ok (.aload_n 0, 1) := by decide +kernel
theorem dX8_init_93 : decode cX8_init 93 = .ok (.sipush 300, 3) := by decide +kernel
theorem dX8_init_96 : decode cX8_init 96 = .ok (.newarray .int, 2) := by decide +kernel
theorem dX8_init_98 : decode cX8_init 98 = .ok (.putfield 48, 3) := by decide +kernel
theorem dX8_init_101 : decode cX8_init 101 = .ok (.aload_n 0, 1) := by decide +kernel
theorem dX8_init_102 : decode cX8_init 102 = .ok (.sipush 300, 3) := by decide +kernel
theorem dX8_init_105 : decode cX8_init 105 = .ok (.newarray .int, 2) := by decide +kernel
theorem dX8_init_107 : decode cX8_init 107 = .ok (.putfield 51, 3) := by decide +kernel
theorem dX8_init_110 : decode cX8_init 110 = .ok (.aload_n 0, 1) := by decide +kernel
theorem dX8_init_111 : decode cX8_init 111 = .ok (.sipush 300, 3) := by decide +kernel
theorem dX8_init_114 : decode cX8_init 114 = .ok (.newarray .int, 2) := by decide +kernel
theorem dX8_init_116 : decode cX8_init 116 = .ok (.putfield 54, 3) := by decide +kernel
theorem dX8_init_119 : decode cX8_init 119 = .ok (.aload_n 0, 1) := by decide +kernel
theorem dX8_init_120 : decode cX8_init 120 = .ok (.iconst 0, 1) := by decide +kernel
theorem dX8_init_121 : decode cX8_init 121 = .ok (.putfield 57, 3) := by decide +kernel
theorem dX8_init_124 : decode cX8_init 124 = .ok (.aload_n 0, 1) := by decide +kernel
theorem dX8_init_125 : decode cX8_init 125 = .ok (.iconst 0, 1) := by decide +kernel
theorem dX8_init_126 : decode cX8_init 126 = .ok (.putfield 61, 3) := by decide +kernel
theorem dX8_init_129 : decode cX8_init 129 = .ok (.aload_n 0, 1) := by decide +kernel
theorem dX8_init_130 : decode cX8_init 130 = .ok (.iconst 0, 1) := by decide +kernel
theorem dX8_init_131 : decode cX8_init 131 = .ok (.putfield 64, 3) := by decide +kernel
theorem dX8_init_134 : decode cX8_init 134 = .ok (.aload_n 0, 1) := by decide +kernel
theorem dX8_init_135 : decode cX8_init 135 = .ok (.sipush 1040, 3) := by decide +kernel
theorem dX8_init_138 : decode cX8_init 138 = .ok (.newarray .byte, 2) := by decide +kernel
theorem dX8_init_140 : decode cX8_init 140 = .ok (.putfield 67, 3) := by decide +kernel
theorem dX8_init_143 : decode cX8_init 143 = .ok (.aload_n 0, 1) := by decide +kernel
theorem dX8_init_144 : decode cX8_init 144 = .ok (.iconst 0, 1) := by decide +kernel
theorem dX8_init_145 : decode cX8_init 145 = .ok (.putfield 70, 3) := by decide +kernel
theorem dX8_init_148 : decode cX8_init 148 = .ok (.aload_n 0, 1) := by decide +kernel
theorem dX8_init_149 : decode cX8_init 149 = .ok (.iconst 0, 1) := by decide +kernel
theorem dX8_init_150 : decode cX8_init 150 = .ok (.putfield 73, 3) := by decide +kernel
theorem dX8_init_153 : decode cX8_init 153 = .ok (.aload_n 0, 1) := by decide +kernel
theorem dX8_init_154 : decode cX8_init 154 = .ok (.iconst 0, 1) := by decide +kernel
theorem dX8_init_155 : decode cX8_init 155 = .ok (.putfield 76, 3) := by decide +kernel
theorem dX8_init_158 : decode cX8_init 158 = .ok (.aload_n 0, 1) := by decide +kernel
theorem dX8_init_159 : decode cX8_init 159 = .ok (.iconst 0, 1) := by decide +kernel
theorem dX8_init_160 : decode cX8_init 160 = .ok (.putfield 79, 3) := by decide +kernel
theorem dX8_init_163 : decode cX8_init 163 = .ok (.aload_n 0, 1) := by decide +kernel
theorem dX8_init_164 : decode cX8_init 164 = .ok (.iconst 0, 1) := by decide +kernel
theorem dX8_init_165 : decode cX8_init 165 = .ok (.putfield 82, 3) := by decide +kernel
theorem dX8_init_168 : decode cX8_init 168 = .ok (.aload_n 0, 1) := by decide +kernel
theorem dX8_init_169 : decode cX8_init 169 = .ok (.iconst 0, 1) := by decide +kernel
theorem dX8_init_170 : decode cX8_init 170 = .ok (.putfield 85, 3) := by decide +kernel
theorem dX8_init_173 : decode cX8_init 173 = .ok (.aload_n 0, 1) := by decide +kernel
theorem dX8_init_174 : decode cX8_init 174 = .ok (.iconst 0, 1) := by decide +kernel
theorem dX8_init_175 : decode cX8_init 175 = .ok (.putfield 88, 3) := by decide +kernel
theorem dX8_init_178 : decode cX8_init 178 = .ok (.aload_n 0, 1) := by decide +kernel
theorem dX8_init_179 : decode cX8_init 179 = .ok (.iconst 0, 1) := by decide +kernel
theorem dX8_init_180 : decode cX8_init 180 = .ok (.putfield 91, 3) := by decide +kernel
theorem dX8_init_183 : decode cX8_init 183 = .ok (.aload_n 0, 1) := by decide +kernel
theorem dX8_init_184 : decode cX8_init 184 = .ok (.iconst 0, 1) := by decide +kernel
theorem dX8_init_185 : decode cX8_init 185 = .ok (.putfield 94, 3) := by decide +kernel
theorem dX8_init_188 : decode cX8_init 188 = .ok (.aload_n 0, 1) := by decide +kernel
theorem dX8_init_189 : decode cX8_init 189 = .ok (.iconst 0, 1) := by decide +kernel
theorem dX8_init_190 : decode cX8_init 190 = .ok (.putfield 97, 3) := by decide +kernel
theorem dX8_init_193 : decode cX8_init 193 = .ok (.aload_n 0, 1) := by decide +kernel
theorem dX8_init_194 : decode cX8_init 194 = .ok (.iconst 0, 1) := by decide +kernel
theorem dX8_init_195 : decode cX8_init 195 = .ok (.putfield 100, 3) := by decide +kernel
theorem dX8_init_198 : decode cX8_init 198 = .ok (.aload_n 0, 1) := by decide +kernel
theorem dX8_init_199 : decode cX8_init 199 = .ok (.iconst 0, 1) := by decide +kernel
theorem dX8_init_200 : decode cX8_init 200 = .ok (.putfield 103, 3) := by decide +kernel
theorem dX8_init_203 : decode cX8_init 203 = .ok (.aload_n 0, 1) := by decide +kernel
theorem dX8_init_204 : decode cX8_init 204 = .ok (.iconst 0, 1) := by decide +kernel
theorem dX8_init_205 : decode cX8_init 205 = .ok (.putfield 106, 3) := by decide +kernel
theorem dX8_init_208 : decode cX8_init 208 = .ok (.aload_n 0, 1) := by decide +kernel
theorem dX8_init_209 : decode cX8_init 209 = .ok (.iconst 0, 1) := by decide +kernel
theorem dX8_init_210 : decode cX8_init 210 = .ok (.putfield 109, 3) := by decide +kernel
theorem dX8_init_213 : decode cX8_init 213 = .ok (.aload_n 0, 1) := by decide +kernel
theorem dX8_init_214 : decode cX8_init 214 = .ok (.iconst 0, 1) := by decide +kernel
theorem dX8_init_215 : decode cX8_init 215 = .ok (.putfield 112, 3) := by decide +kernel
theorem dX8_init_218 : decode cX8_init 218 = .ok (.aload_n 0, 1) := by decide +kernel
theorem dX8_init_219 : decode cX8_init 219 = .ok (.bipush 96, 2) := by decide +kernel
theorem dX8_init_221 : decode cX8_init 221 = .ok (.newarray .byte, 2) := by decide +kernel
theorem dX8_init_223 : decode cX8_init 223 = .ok (.putfield 115, 3) := by decide +kernel
theorem dX8_init_226 : decode cX8_init 226 = .ok (.aload_n 0, 1) := by decide +kernel
theorem dX8_init_227 : decode cX8_init 227 = .ok (.bipush 8, 2) := by decide +kernel
theorem dX8_init_229 : decode cX8_init 229 = .ok (.newarray .int, 2) := by decide +kernel
theorem dX8_init_231 : decode cX8_init 231 = .ok (.putfield 118, 3) := by decide +kernel
theorem dX8_init_234 : decode cX8_init 234 = .ok (.aload_n 0, 1) := by decide +kernel
theorem dX8_init_235 : decode cX8_init 235 = .ok (.sipush 28000, 3) := by decide +kernel
theorem dX8_init_238 : decode cX8_init 238 = .ok (.newarray .byte, 2) := by decide +kernel
theorem dX8_init_240 : decode cX8_init 240 = .ok (.putfield 121, 3) := by decide +kernel
theorem dX8_init_243 : decode cX8_init 243 = .ok (.aload_n 0, 1) := by decide +kernel
theorem dX8_init_244 : decode cX8_init 244 = .ok (.bipush 8, 2) := by decide +kernel
theorem dX8_init_246 : decode cX8_init 246 = .ok (.newarray .int, 2) := by decide +kernel
theorem dX8_init_248 : decode cX8_init 248 = .ok (.putfield 124, 3) := by decide +kernel
theorem dX8_init_251 : decode cX8_init 251 = .ok (.aload_n 0, 1) := by decide +kernel
theorem dX8_init_252 : decode cX8_init 252 = .ok (.iconst 0, 1) := by decide +kernel
theorem dX8_init_253 : decode cX8_init 253 = .ok (.putfield 127, 3) := by decide +kernel
theorem dX8_init_256 : decode cX8_init 256 = .ok (.iconst 0, 1) := by decide +kernel
theorem dX8_init_257 : decode cX8_init 257 = .ok (.istore_n 1, 1) := by decide +kernel
theorem dX8_init_258 : decode cX8_init 258 = .ok (.iload_n 1, 1) := by decide +kernel
theorem dX8_init_259 : decode cX8_init 259 = .ok (.bipush 16, 2) := by decide +kernel
theorem dX8_init_261 : decode cX8_init 261 = .ok (.if_icmp .ge 58, 3) := by decide +kernel
theorem dX8_init_264 : decode cX8_init 264 = .ok (.iload_n 1, 1) := by decide +kernel
theorem dX8_init_265 : decode cX8_init 265 = .ok (.bipush 12, 2) := by decide +kernel
theorem dX8_init_267 : decode cX8_init 267 = .ok (.ishl, 1) := by decide +kernel
theorem dX8_init_268 : decode cX8_init 268 = .ok (.istore_n 2, 1) := by decide +kernel
theorem dX8_init_269 : decode cX8_init 269 = .ok (.iconst 0, 1) := by decide +kernel
theorem dX8_init_270 : decode cX8_init 270 = .ok (.istore_n 3, 1) := by decide +kernel
theorem dX8_init_271 : decode cX8_init 271 = .ok (.iload_n 3, 1) := by decide +kernel
theorem dX8_init_272 : decode cX8_init 272 = .ok (.iconst 4, 1) := by decide +kernel
theorem dX8_init_273 : decode cX8_init 273 = .ok (.if_icmp .ge 30, 3) := by decide +kernel
theorem dX8_init_276 : decode cX8_init 276 = .ok (.iload_n 2, 1) := by decide +kernel
theorem dX8_init_277 : decode cX8_init 277 = .ok (.ldc 130, 2) := by decide +kernel
theorem dX8_init_279 : decode cX8_init 279 = .ok (.iand, 1) := by decide +kernel
theorem dX8_init_280 : decode cX8_init 280 = .ok (.ifCond .eq 13, 3) := by decide +kernel
theorem dX8_init_283 : decode cX8_init 283 = .ok (.iload_n 2, 1) := by decide +kernel
theorem dX8_init_284 : decode cX8_init 284 = .ok (.iconst 1, 1) := by decide +kernel
theorem dX8_init_285 : decode cX8_init 285 = .ok (.ishl, 1) := by decide +kernel
theorem dX8_init_286 : decode cX8_init 286 = .ok (.sipush 4129, 3) := by decide +kernel
theorem dX8_init_289 : decode cX8_init 289 = .ok (.ixor, 1) := by decide +kernel
theorem dX8_init_290 : decode cX8_init 290 = .ok (.goto 6, 3) := by decide +kernel
theorem dX8_init_293 : decode cX8_init 293 = .ok (.iload_n 2, 1) := by decide +kernel
theorem dX8_init_294 : decode cX8_init 294 = .ok (.iconst 1, 1) := by decide +kernel
theorem dX8_init_295 : decode cX8_init 295 = .ok (.ishl, 1) := by decide +kernel
theorem dX8_init_296 : decode cX8_init 296 = .ok (.istore_n 2, 1) := by decide +kernel
theorem dX8_init_297 : decode cX8_init 297 = .ok (.iinc 3 1, 3) := by decide +kernel
theorem dX8_init_300 : decode cX8_init 300 = .ok (.goto (-29), 3) := by decide +kernel
theorem dX8_init_303 : decode cX8_init 303 = .ok (.aload_n 0, 1) := by decide +kernel
theorem dX8_init_304 : decode cX8_init 304 = .ok (.getfield 13, 3) := by decide +kernel
theorem dX8_init_307 : decode cX8_init 307 = .ok (.iload_n 1, 1) := by decide +kernel
theorem dX8_init_308 : decode cX8_init 308 = .ok (.iload_n 2, 1) := by decide +kernel
theorem dX8_init_309 : decode cX8_init 309 = .ok (.ldc 131, 2) := by decide +kernel
theorem dX8_init_311 : decode cX8_init 311 = .ok (.iand, 1) := by decide +kernel
theorem dX8_init_312 : decode cX8_init 312 = .ok (.iastore, 1) := by decide +kernel
theorem dX8_init_313 : decode cX8_init 313 = .ok (.iinc 1 1, 3) := by decide +kernel
theorem dX8_init_316 : decode cX8_init 316 = .ok (.goto (-58), 3) := by decide +kernel
theorem dX8_init_319 : decode cX8_init 319 = .ok (.return_, 1) := by decide +kernel
theorem dX8_thrown_0 : decode cX8_thrown 0 = .ok (.aload_n 0, 1) := by decide +kernel
theorem dX8_thrown_1 : decode cX8_thrown 1 = .ok (.getfield 7, 3) := by decide +kernel
theorem dX8_thrown_4 : decode cX8_thrown 4 = .ok (.ireturn, 1) := by decide +kernel
theorem dX8_feed_0 : decode cX8_feed 0 = .ok (.aload_n 0, 1) := by decide +kernel
theorem dX8_feed_1 : decode cX8_feed 1 = .ok (.iconst 0, 1) := by decide +kernel
theorem dX8_feed_2 : decode cX8_feed 2 = .ok (.putfield 7, 3) := by decide +kernel
theorem dX8_feed_5 : decode cX8_feed 5 = .ok (.aload_n 0, 1) := by decide +kernel
theorem dX8_feed_6 : decode cX8_feed 6 = .ok (.getfield 21, 3) := by decide +kernel
theorem dX8_feed_9 : decode cX8_feed 9 = .ok (.bipush 20, 2) := by decide +kernel
theorem dX8_feed_11 : decode cX8_feed 11 = .ok (.iadd, 1) := by decide +kernel
theorem dX8_feed_12 : decode cX8_feed 12 = .ok (.sipush 3100, 3) := by decide +kernel
theorem dX8_feed_15 : decode cX8_feed 15 = .ok (.if_icmp .le 5, 3) := by decide +kernel
theorem dX8_feed_18 : decode cX8_feed 18 = .ok (.iconst 0, 1) := by decide +kernel
theorem dX8_feed_19 : decode cX8_feed 19 = .ok (.ireturn, 1) := by decide +kernel
theorem dX8_feed_20 : decode cX8_feed 20 = .ok (.iconst 0, 1) := by decide +kernel
theorem dX8_feed_21 : decode cX8_feed 21 = .ok (.istore 6, 2) := by decide +kernel
theorem dX8_feed_23 : decode cX8_feed 23 = .ok (.iload 6, 2) := by decide +kernel
theorem dX8_feed_25 : decode cX8_feed 25 = .ok (.bipush 20, 2) := by decide +kernel
theorem dX8_feed_27 : decode cX8_feed 27 = .ok (.if_icmp .ge 86, 3) := by decide +kernel
theorem dX8_feed_30 : decode cX8_feed 30 = .ok (.iload_n 1, 1) := by decide +kernel
theorem dX8_feed_31 : decode cX8_feed 31 = .ok (.istore 7, 2) := by decide +kernel
theorem dX8_feed_33 : decode cX8_feed 33 = .ok (.iload 6, 2) := by decide +kernel
theorem dX8_feed_35 : decode cX8_feed 35 = .ok (.iconst 4, 1) := by decide +kernel
theorem dX8_feed_36 : decode cX8_feed 36 = .ok (.if_icmp .lt 6, 3) := by decide +kernel
theorem dX8_feed_39 : decode cX8_feed 39 = .ok (.iload_n 2, 1) := by decide +kernel
theorem dX8_feed_40 : decode cX8_feed 40 = .ok (.istore 7, 2) := by decide +kernel
theorem dX8_feed_42 : decode cX8_feed 42 = .ok (.iload 6, 2) := by decide +kernel
theorem dX8_feed_44 : decode cX8_feed 44 = .ok (.bipush 8, 2) := by decide +kernel
theorem dX8_feed_46 : decode cX8_feed 46 = .ok (.if_icmp .lt 6, 3) := by decide +kernel
theorem dX8_feed_49 : decode cX8_feed 49 = .ok (.iload_n 3, 1) := by decide +kernel
theorem dX8_feed_50 : decode cX8_feed 50 = .ok (.istore 7, 2) := by decide +kernel
theorem dX8_feed_52 : decode cX8_feed 52 = .ok (.iload 6, 2) := by decide +kernel
theorem dX8_feed_54 : decode cX8_feed 54 = .ok (.bipush 12, 2) := by decide +kernel
theorem dX8_feed_56 : decode cX8_feed 56 = .ok (.if_icmp .lt 7, 3) := by decide +kernel
theorem dX8_feed_59 : decode cX8_feed 59 = .ok (.iload 4, 2) := by decide +kernel
theorem dX8_feed_61 : decode cX8_feed 61 = .ok (.istore 7, 2) := by decide +kernel
theorem dX8_feed_63 : decode cX8_feed 63 = .ok (.iload 6, 2) := by decide +kernel
theorem dX8_feed_65 : decode cX8_feed 65 = .ok (.bipush 16, 2) := by decide +kernel
theorem dX8_feed_67 : decode cX8_feed 67 = .ok (.if_icmp .lt 7, 3) := by decide +kernel
theorem dX8_feed_70 : decode cX8_feed 70 = .ok (.iload 5, 2) := by decide +kernel
theorem dX8_feed_72 : decode cX8_feed 72 = .ok (.istore 7, 2) := by decide +kernel
theorem dX8_feed_74 : decode cX8_feed 74 = .ok (.aload_n 0, 1) := by decide +kernel
theorem dX8_feed_75 : decode cX8_feed 75 = .ok (.getfield 17, 3) := by decide +kernel
theorem dX8_feed_78 : decode cX8_feed 78 = .ok (.aload_n 0, 1) := by decide +kernel
theorem dX8_feed_79 : decode cX8_feed 79 = .ok (.getfield 21, 3) := by decide +kernel
theorem dX8_feed_82 : decode cX8_feed 82 = .ok (.iload 7, 2) := by decide +kernel
theorem dX8_feed_84 : decode cX8_feed 84 = .ok (.bipush 24, 2) := by decide +kernel
theorem dX8_feed_86 : decode cX8_feed 86 = .ok (.bipush 8, 2) := by decide +kernel
theorem dX8_feed_88 : decode cX8_feed 88 = .ok (.iload 6, 2) := by decide +kernel
theorem dX8_feed_90 : decode cX8_feed 90 = .ok (.iconst 3, 1) := by decide +kernel
theorem dX8_feed_91 : decode cX8_feed 91 = .ok (.iand, 1) := by decide +kernel
theorem dX8_feed_92 : decode cX8_feed 92 = .ok (.imul, 1) := by decide +kernel
theorem dX8_feed_93 : decode cX8_feed 93 = .ok (.isub, 1) := by decide +kernel
theorem dX8_feed_94 : decode cX8_feed 94 = .ok (.ishr, 1) := by decide +kernel
theorem dX8_feed_95 : decode cX8_feed 95 = .ok (.i2b, 1) := by decide +kernel
theorem dX8_feed_96 : decode cX8_feed 96 = .ok (.bastore, 1) := by decide +kernel
theorem dX8_feed_97 : decode cX8_feed 97 = .ok (.aload_n 0, 1) := by decide +kernel
theorem dX8_feed_98 : decode cX8_feed 98 = .ok (.dup, 1) := by decide +kernel
theorem dX8_feed_99 : decode cX8_feed 99 = .ok (.getfield 21, 3) := by decide +kernel
theorem dX8_feed_102 : decode cX8_feed 102 = .ok (.iconst 1, 1) := by decide +kernel
theorem dX8_feed_103 : decode cX8_feed 103 = .ok (.iadd, 1) := by decide +kernel
theorem dX8_feed_104 : decode cX8_feed 104 = .ok (.putfield 21, 3) := by decide +kernel
theorem dX8_feed_107 : decode cX8_feed 107 = .ok (.iinc 6 1, 3) := by decide +kernel
theorem dX8_feed_110 : decode cX8_feed 110 = .ok (.goto (-87), 3) := by decide +kernel
theorem dX8_feed_113 : decode cX8_feed 113 = .ok (.iconst 1, 1) := by decide +kernel
theorem dX8_feed_114 : decode cX8_feed 114 = .ok (.ireturn, 1) := by decide +kernel
theorem dX8_end_0 : decode cX8_end 0 = .ok (.aload_n 0, 1) := by decide +kernel
theorem dX8_end_1 : decode cX8_end 1 = .ok (.iconst 0, 1) := by decide +kernel
theorem dX8_end_2 : decode cX8_end 2 = .ok (.putfield 7, 3) := by decide +kernel
theorem dX8_end_5 : decode cX8_end 5 = .ok (.iload_n 1, 1) := by decide +kernel
theorem dX8_end_6 : decode cX8_end 6 = .ok (.ifCond .lt 11, 3) := by decide +kernel
theorem dX8_end_9 : decode cX8_end 9 = .ok (.iload_n 1, 1) := by decide +kernel
theorem dX8_end_10 : decode cX8_end 10 = .ok (.aload_n 0, 1) := by decide +kernel
theorem dX8_end_11 : decode cX8_end 11 = .ok (.getfield 21, 3) := by decide +kernel
theorem dX8_end_14 : decode cX8_end 14 = .ok (.if_icmp .le 5, 3) := by decide +kernel
theorem dX8_end_17 : decode cX8_end 17 = .ok (.iconst 0, 1) := by decide +kernel
theorem dX8_end_18 : decode cX8_end 18 = .ok (.ireturn, 1) := by decide +kernel
theorem dX8_end_19 : decode cX8_end 19 = .ok (.aload_n 0, 1) := by decide +kernel
theorem dX8_end_20 : decode cX8_end 20 = .ok (.iload_n 1, 1) := by decide +kernel
theorem dX8_end_21 : decode cX8_end 21 = .ok (.putfield 21, 3) := by decide +kernel
theorem dX8_end_24 : decode cX8_end 24 = .ok (.iconst 1, 1) := by decide +kernel
theorem dX8_end_25 : decode cX8_end 25 = .ok (.ireturn, 1) := by decide +kernel
theorem dX8_file_0 : decode cX8_file 0 = .ok (.aload_n 0, 1) := by decide +kernel
theorem dX8_file_1 : decode cX8_file 1 = .ok (.iconst 0, 1) := by decide +kernel
theorem dX8_file_2 : decode cX8_file 2 = .ok (.putfield 7, 3) := by decide +kernel
theorem dX8_file_5 : decode cX8_file 5 = .ok (.aload_n 0, 1) := by decide +kernel
theorem dX8_file_6 : decode cX8_file 6 = .ok (.getfield 21, 3) := by decide +kernel
theorem dX8_file_9 : decode cX8_file 9 = .ok (.istore_n 1, 1) := by decide +kernel
theorem dX8_file_10 : decode cX8_file 10 = .ok (.aload_n 0, 1) := by decide +kernel
theorem dX8_file_11 : decode cX8_file 11 = .ok (.iconst 0, 1) := by decide +kernel
theorem dX8_file_12 : decode cX8_file 12 = .ok (.putfield 21, 3) := by decide +kernel
theorem dX8_file_15 : decode cX8_file 15 = .ok (.iconst 0, 1) := by decide +kernel
theorem dX8_file_16 : decode cX8_file 16 = .ok (.istore_n 2, 1) := by decide +kernel
theorem dX8_file_17 : decode cX8_file 17 = .ok (.iload_n 2, 1) := by decide +kernel
theorem dX8_file_18 : decode cX8_file 18 = .ok (.iload_n 1, 1) := by decide +kernel
theorem dX8_file_19 : decode cX8_file 19 = .ok (.if_icmp .ge 18, 3) := by decide +kernel
theorem dX8_file_22 : decode cX8_file 22 = .ok (.aload_n 0, 1) := by decide +kernel
theorem dX8_file_23 : decode cX8_file 23 = .ok (.getfield 17, 3) := by decide +kernel
theorem dX8_file_26 : decode cX8_file 26 = .ok (.iload_n 2, 1) := by decide +kernel
theorem dX8_file_27 : decode cX8_file 27 = .ok (.baload, 1) := by decide +kernel
theorem dX8_file_28 : decode cX8_file 28 = .ok (.ifCond .eq 9, 3) := by decide +kernel
theorem dX8_file_31 : decode cX8_file 31 = .ok (.iinc 2 1, 3) := by decide +kernel
theorem dX8_file_34 : decode cX8_file 34 = .ok (.goto (-17), 3) := by decide +kernel
theorem dX8_file_37 : decode cX8_file 37 = .ok (.iload_n 2, 1) := by decide +kernel
theorem dX8_file_38 : decode cX8_file 38 = .ok (.iload_n 1, 1) := by decide +kernel
theorem dX8_file_39 : decode cX8_file 39 = .ok (.if_icmp .eq 41, 3) := by decide +kernel
theorem dX8_file_42 : decode cX8_file 42 = .ok (.iload_n 2, 1) := by decide +kernel
theorem dX8_file_43 : decode cX8_file 43 = .ok (.iconst 1, 1) := by decide +kernel
theorem dX8_file_44 : decode cX8_file 44 = .ok (.if_icmp .lt 36, 3) := by decide +kernel
theorem dX8_file_47 : decode cX8_file 47 = .ok (.iload_n 2, 1) := by decide +kernel
theorem dX8_file_48 : decode cX8_file 48 = .ok (.bipush 12, 2) := by decide +kernel
theorem dX8_file_50 : decode cX8_file 50 = .ok (.if_icmp .gt 30, 3) := by decide +kernel
theorem dX8_file_53 : decode cX8_file 53 = .ok (.iload_n 1, 1) := by decide +kernel
theorem dX8_file_54 : decode cX8_file 54 = .ok (.iload_n 2, 1) := by decide +kernel
theorem dX8_file_55 : decode cX8_file 55 = .ok (.isub, 1) := by decide +kernel
theorem dX8_file_56 : decode cX8_file 56 = .ok (.iconst 1, 1) := by decide +kernel
theorem dX8_file_57 : decode cX8_file 57 = .ok (.isub, 1) := by decide +kernel
theorem dX8_file_58 : decode cX8_file 58 = .ok (.sipush 3000, 3) := by decide +kernel
theorem dX8_file_61 : decode cX8_file 61 = .ok (.if_icmp .gt 19, 3) := by decide +kernel
theorem dX8_file_64 : decode cX8_file 64 = .ok (.aload_n 0, 1) := by decide +kernel
theorem dX8_file_65 : decode cX8_file 65 = .ok (.getfield 24, 3) := by decide +kernel
theorem dX8_file_68 : decode cX8_file 68 = .ok (.bipush 8, 2) := by decide +kernel
theorem dX8_file_70 : decode cX8_file 70 = .ok (.if_icmp .eq 10, 3) := by decide +kernel
theorem dX8_file_73 : decode cX8_file 73 = .ok (.aload_n 0, 1) := by decide +kernel
theorem dX8_file_74 : decode cX8_file 74 = .ok (.getfield 57, 3) := by decide +kernel
theorem dX8_file_77 : decode cX8_file 77 = .ok (.ifCond .eq 5, 3) := by decide +kernel
theorem dX8_file_80 : decode cX8_file 80 = .ok (.iconst (-1), 1) := by decide +kernel
theorem dX8_file_81 : decode cX8_file 81 = .ok (.ireturn, 1) := by decide +kernel
theorem dX8_file_82 : decode cX8_file 82 = .ok (.iconst 0, 1) := by decide +kernel
theorem dX8_file_83 : decode cX8_file 83 = .ok (.istore_n 3, 1) := by decide +kernel
theorem dX8_file_84 : decode cX8_file 84 = .ok (.iload_n 3, 1) := by decide +kernel
theorem dX8_file_85 : decode cX8_file 85 = .ok (.iload_n 2, 1) := by decide +kernel
theorem dX8_file_86 : decode cX8_file 86 = .ok (.if_icmp .ge 29, 3) := by decide +kernel
theorem dX8_file_89 : decode cX8_file 89 = .ok (.aload_n 0, 1) := by decide +kernel
theorem dX8_file_90 : decode cX8_file 90 = .ok (.getfield 27, 3) := by decide +kernel
theorem dX8_file_93 : decode cX8_file 93 = .ok (.bipush 12, 2) := by decide +kernel
theorem dX8_file_95 : decode cX8_file 95 = .ok (.aload_n 0, 1) := by decide +kernel
theorem dX8_file_96 : decode cX8_file 96 = .ok (.getfield 24, 3) := by decide +kernel
theorem dX8_file_99 : decode cX8_file 99 = .ok (.imul, 1) := by decide +kernel
theorem dX8_file_100 : decode cX8_file 100 = .ok (.iload_n 3, 1) := by decide +kernel
theorem dX8_file_101 : decode cX8_file 101 = .ok (.iadd, 1) := by decide +kernel
theorem dX8_file_102 : decode cX8_file 102 = .ok (.aload_n 0, 1) := by decide +kernel
theorem dX8_file_103 : decode cX8_file 103 = .ok (.getfield 17, 3) := by decide +kernel
theorem dX8_file_106 : decode cX8_file 106 = .ok (.iload_n 3, 1) := by decide +kernel
theorem dX8_file_107 : decode cX8_file 107 = .ok (.baload, 1) := by decide +kernel
theorem dX8_file_108 : decode cX8_file 108 = .ok (.bastore, 1) := by decide +kernel
theorem dX8_file_109 : decode cX8_file 109 = .ok (.iinc 3 1, 3) := by decide +kernel
theorem dX8_file_112 : decode cX8_file 112 = .ok (.goto (-28), 3) := by decide +kernel
theorem dX8_file_115 : decode cX8_file 115 = .ok (.aload_n 0, 1) := by decide +kernel
theorem dX8_file_116 : decode cX8_file 116 = .ok (.getfield 30, 3) := by decide +kernel
theorem dX8_file_119 : decode cX8_file 119 = .ok (.aload_n 0, 1) := by decide +kernel
theorem dX8_file_120 : decode cX8_file 120 = .ok (.getfield 24, 3) := by decide +kernel
theorem dX8_file_123 : decode cX8_file 123 = .ok (.iload_n 2, 1) := by decide +kernel
theorem dX8_file_124 : decode cX8_file 124 = .ok (.iastore, 1) := by decide +kernel
theorem dX8_file_125 : decode cX8_file 125 = .ok (.aload_n 0, 1) := by decide +kernel
theorem dX8_file_126 : decode cX8_file 126 = .ok (.getfield 36, 3) := by decide +kernel
theorem dX8_file_129 : decode cX8_file 129 = .ok (.aload_n 0, 1) := by decide +kernel
theorem dX8_file_130 : decode cX8_file 130 = .ok (.getfield 24, 3) := by decide +kernel
theorem dX8_file_133 : decode cX8_file 133 = .ok (.iload_n 1, 1) := by decide +kernel
theorem dX8_file_134 : decode cX8_file 134 = .ok (.iload_n 2, 1) := by decide +kernel
theorem dX8_file_135 : decode cX8_file 135 = .ok (.isub, 1) := by decide +kernel
theorem dX8_file_136 : decode cX8_file 136 = .ok (.iconst 1, 1) := by decide +kernel
theorem dX8_file_137 : decode cX8_file 137 = .ok (.isub, 1) := by decide +kernel
theorem dX8_file_138 : decode cX8_file 138 = .ok (.iastore, 1) := by decide +kernel
theorem dX8_file_139 : decode cX8_file 139 = .ok (.iconst 0, 1) := by decide +kernel
theorem dX8_file_140 : decode cX8_file 140 = .ok (.istore_n 3, 1) := by decide +kernel
theorem dX8_file_141 : decode cX8_file 141 = .ok (.iload_n 3, 1) := by decide +kernel
theorem dX8_file_142 : decode cX8_file 142 = .ok (.aload_n 0, 1) := by decide +kernel
theorem dX8_file_143 : decode cX8_file 143 = .ok (.getfield 36, 3) := by decide +kernel
theorem dX8_file_146 : decode cX8_file 146 = .ok (.aload_n 0, 1) := by decide +kernel
theorem dX8_file_147 : decode cX8_file 147 = .ok (.getfield 24, 3) := by decide +kernel
theorem dX8_file_150 : decode cX8_file 150 = .ok (.iaload, 1) := by decide +kernel
theorem dX8_file_151 : decode cX8_file 151 = .ok (.if_icmp .ge 34, 3) := by decide +kernel
theorem dX8_file_154 : decode cX8_file 154 = .ok (.aload_n 0, 1) := by decide +kernel
theorem dX8_file_155 : decode cX8_file 155 = .ok (.getfield 33, 3) := by decide +kernel
theorem dX8_file_158 : decode cX8_file 158 = .ok (.sipush 3000, 3) := by decide +kernel
theorem dX8_file_161 : decode cX8_file 161 = .ok (.aload_n 0, 1) := by decide +kernel
theorem dX8_file_162 : decode cX8_file 162 = .ok (.getfield 24, 3) := by decide +kernel
theorem dX8_file_165 : decode cX8_file 165 = .ok (.imul, 1) := by decide +kernel
theorem dX8_file_166 : decode cX8_file 166 = .ok (.iload_n 3, 1) := by decide +kernel
theorem dX8_file_167 : decode cX8_file 167 = .ok (.iadd, 1) := by decide +kernel
theorem dX8_file_168 : decode cX8_file 168 = .ok (.aload_n 0, 1) := by decide +kernel
theorem dX8_file_169 : decode cX8_file 169 = .ok (.getfield 17, 3) := by decide +kernel
theorem dX8_file_172 : decode cX8_file 172 = .ok (.iload_n 2, 1) := by decide +kernel
theorem dX8_file_173 : decode cX8_file 173 = .ok (.iconst 1, 1) := by decide +kernel
theorem dX8_file_174 : decode cX8_file 174 = .ok (.iadd, 1) := by decide +kernel
theorem dX8_file_175 : decode cX8_file 175 = .ok (.iload_n 3, 1) := by decide +kernel
theorem dX8_file_176 : decode cX8_file 176 = .ok (.iadd, 1) := by decide +kernel
theorem dX8_file_177 : decode cX8_file 177 = .ok (.baload, 1) := by decide +kernel
theorem dX8_file_178 : decode cX8_file 178 = .ok (.bastore, 1) := by decide +kernel
theorem dX8_file_179 : decode cX8_file 179 = .ok (.iinc 3 1, 3) := by decide +kernel
theorem dX8_file_182 : decode cX8_file 182 = .ok (.goto (-41), 3) := by decide +kernel
theorem dX8_file_185 : decode cX8_file 185 = .ok (.aload_n 0, 1) := by decide +kernel
theorem dX8_file_186 : decode cX8_file 186 = .ok (.dup, 1) := by decide +kernel
theorem dX8_file_187 : decode cX8_file 187 = .ok (.getfield 24, 3) := by decide +kernel
theorem dX8_file_190 : decode cX8_file 190 = .ok (.iconst 1, 1) := by decide +kernel
theorem dX8_file_191 : decode cX8_file 191 = .ok (.iadd, 1) := by decide +kernel
theorem dX8_file_192 : decode cX8_file 192 = .ok (.putfield 24, 3) := by decide +kernel
theorem dX8_file_195 : decode cX8_file 195 = .ok (.aload_n 0, 1) := by decide +kernel
theorem dX8_file_196 : decode cX8_file 196 = .ok (.getfield 24, 3) := by decide +kernel
theorem dX8_file_199 : decode cX8_file 199 = .ok (.iconst 1, 1) := by decide +kernel
theorem dX8_file_200 : decode cX8_file 200 = .ok (.isub, 1) := by decide +kernel
theorem dX8_file_201 : decode cX8_file 201 = .ok (.ireturn, 1) := by decide +kernel
theorem dX8_made_0 : decode cX8_made 0 = .ok (.aload_n 0, 1) := by decide +kernel
theorem dX8_made_1 : decode cX8_made 1 = .ok (.iconst 0, 1) := by decide +kernel
theorem dX8_made_2 : decode cX8_made 2 = .ok (.putfield 7, 3) := by decide +kernel
theorem dX8_made_5 : decode cX8_made 5 = .ok (.iload_n 1, 1) := by decide +kernel
theorem dX8_made_6 : decode cX8_made 6 = .ok (.ifCond .lt 26, 3) := by decide +kernel
theorem dX8_made_9 : decode cX8_made 9 = .ok (.iload_n 1, 1) := by decide +kernel
theorem dX8_made_10 : decode cX8_made 10 = .ok (.sipush 3000, 3) := by decide +kernel
theorem dX8_made_13 : decode cX8_made 13 = .ok (.if_icmp .gt 19, 3) := by decide +kernel
theorem dX8_made_16 : decode cX8_made 16 = .ok (.aload_n 0, 1) := by decide +kernel
theorem dX8_made_17 : decode cX8_made 17 = .ok (.getfield 24, 3) := by decide +kernel
theorem dX8_made_20 : decode cX8_made 20 = .ok (.bipush 8, 2) := by decide +kernel
theorem dX8_made_22 : decode cX8_made 22 = .ok (.if_icmp .eq 10, 3) := by decide +kernel
theorem dX8_made_25 : decode cX8_made 25 = .ok (.aload_n 0, 1) := by decide +kernel
theorem dX8_made_26 : decode cX8_made 26 = .ok (.getfield 57, 3) := by decide +kernel
theorem dX8_made_29 : decode cX8_made 29 = .ok (.ifCond .eq 5, 3) := by decide +kernel
theorem dX8_made_32 : decode cX8_made 32 = .ok (.iconst (-1), 1) := by decide +kernel
theorem dX8_made_33 : decode cX8_made 33 = .ok (.ireturn, 1) := by decide +kernel
theorem dX8_made_34 : decode cX8_made 34 = .ok (.aload_n 0, 1) := by decide +kernel
theorem dX8_made_35 : decode cX8_made 35 = .ok (.getfield 27, 3) := by decide +kernel
theorem dX8_made_38 : decode cX8_made 38 = .ok (.bipush 12, 2) := by decide +kernel
theorem dX8_made_40 : decode cX8_made 40 = .ok (.aload_n 0, 1) := by decide +kernel
theorem dX8_made_41 : decode cX8_made 41 = .ok (.getfield 24, 3) := by decide +kernel
theorem dX8_made_44 : decode cX8_made 44 = .ok (.imul, 1) := by decide +kernel
theorem dX8_made_45 : decode cX8_made 45 = .ok (.bipush 102, 2) := by decide +kernel
theorem dX8_made_47 : decode cX8_made 47 = .ok (.bastore, 1) := by decide +kernel
theorem dX8_made_48 : decode cX8_made 48 = .ok (.aload_n 0, 1) := by decide +kernel
theorem dX8_made_49 : decode cX8_made 49 = .ok (.getfield 30, 3) := by decide +kernel
theorem dX8_made_52 : decode cX8_made 52 = .ok (.aload_n 0, 1) := by decide +kernel
theorem dX8_made_53 : decode cX8_made 53 = .ok (.getfield 24, 3) := by decide +kernel
theorem dX8_made_56 : decode cX8_made 56 = .ok (.iconst 1, 1) := by decide +kernel
theorem dX8_made_57 : decode cX8_made 57 = .ok (.iastore, 1) := by decide +kernel
theorem dX8_made_58 : decode cX8_made 58 = .ok (.aload_n 0, 1) := by decide +kernel
theorem dX8_made_59 : decode cX8_made 59 = .ok (.getfield 36, 3) := by decide +kernel
theorem dX8_made_62 : decode cX8_made 62 = .ok (.aload_n 0, 1) := by decide +kernel
theorem dX8_made_63 : decode cX8_made 63 = .ok (.getfield 24, 3) := by decide +kernel
theorem dX8_made_66 : decode cX8_made 66 = .ok (.iload_n 1, 1) := by decide +kernel
theorem dX8_made_67 : decode cX8_made 67 = .ok (.iastore, 1) := by decide +kernel
theorem dX8_made_68 : decode cX8_made 68 = .ok (.iconst 0, 1) := by decide +kernel
theorem dX8_made_69 : decode cX8_made 69 = .ok (.istore_n 3, 1) := by decide +kernel
theorem dX8_made_70 : decode cX8_made 70 = .ok (.iload_n 3, 1) := by decide +kernel
theorem dX8_made_71 : decode cX8_made 71 = .ok (.iload_n 1, 1) := by decide +kernel
theorem dX8_made_72 : decode cX8_made 72 = .ok (.if_icmp .ge 30, 3) := by decide +kernel
theorem dX8_made_75 : decode cX8_made 75 = .ok (.aload_n 0, 1) := by decide +kernel
theorem dX8_made_76 : decode cX8_made 76 = .ok (.getfield 33, 3) := by decide +kernel
theorem dX8_made_79 : decode cX8_made 79 = .ok (.sipush 3000, 3) := by decide +kernel
theorem dX8_made_82 : decode cX8_made 82 = .ok (.aload_n 0, 1) := by decide +kernel
theorem dX8_made_83 : decode cX8_made 83 = .ok (.getfield 24, 3) := by decide +kernel
theorem dX8_made_86 : decode cX8_made 86 = .ok (.imul, 1) := by decide +kernel
theorem dX8_made_87 : decode cX8_made 87 = .ok (.iload_n 3, 1) := by decide +kernel
theorem dX8_made_88 : decode cX8_made 88 = .ok (.iadd, 1) := by decide +kernel
theorem dX8_made_89 : decode cX8_made 89 = .ok (.iload_n 2, 1) := by decide +kernel
theorem dX8_made_90 : decode cX8_made 90 = .ok (.iconst 5, 1) := by decide +kernel
theorem dX8_made_91 : decode cX8_made 91 = .ok (.iload_n 3, 1) := by decide +kernel
theorem dX8_made_92 : decode cX8_made 92 = .ok (.imul, 1) := by decide +kernel
theorem dX8_made_93 : decode cX8_made 93 = .ok (.iadd, 1) := by decide +kernel
theorem dX8_made_94 : decode cX8_made 94 = .ok (.i2b, 1) := by decide +kernel
theorem dX8_made_95 : decode cX8_made 95 = .ok (.bastore, 1) := by decide +kernel
theorem dX8_made_96 : decode cX8_made 96 = .ok (.iinc 3 1, 3) := by decide +kernel
theorem dX8_made_99 : decode cX8_made 99 = .ok (.goto (-29), 3) := by decide +kernel
theorem dX8_made_102 : decode cX8_made 102 = .ok (.aload_n 0, 1) := by decide +kernel
theorem dX8_made_103 : decode cX8_made 103 = .ok (.dup, 1) := by decide +kernel
theorem dX8_made_104 : decode cX8_made 104 = .ok (.getfield 24, 3) := by decide +kernel
theorem dX8_made_107 : decode cX8_made 107 = .ok (.iconst 1, 1) := by decide +kernel
theorem dX8_made_108 : decode cX8_made 108 = .ok (.iadd, 1) := by decide +kernel
theorem dX8_made_109 : decode cX8_made 109 = .ok (.putfield 24, 3) := by decide +kernel
theorem dX8_made_112 : decode cX8_made 112 = .ok (.aload_n 0, 1) := by decide +kernel
theorem dX8_made_113 : decode cX8_made 113 = .ok (.getfield 24, 3) := by decide +kernel
theorem dX8_made_116 : decode cX8_made 116 = .ok (.iconst 1, 1) := by decide +kernel
theorem dX8_made_117 : decode cX8_made 117 = .ok (.isub, 1) := by decide +kernel
theorem dX8_made_118 : decode cX8_made 118 = .ok (.ireturn, 1) := by decide +kernel
theorem dX8_clear_0 : decode cX8_clear 0 = .ok (.aload_n 0, 1) := by decide +kernel
theorem dX8_clear_1 : decode cX8_clear 1 = .ok (.iconst 0, 1) := by decide +kernel
theorem dX8_clear_2 : decode cX8_clear 2 = .ok (.putfield 7, 3) := by decide +kernel
theorem dX8_clear_5 : decode cX8_clear 5 = .ok (.aload_n 0, 1) := by decide +kernel
theorem dX8_clear_6 : decode cX8_clear 6 = .ok (.getfield 57, 3) := by decide +kernel
theorem dX8_clear_9 : decode cX8_clear 9 = .ok (.ifCond .eq 5, 3) := by decide +kernel
theorem dX8_clear_12 : decode cX8_clear 12 = .ok (.iconst 0, 1) := by decide +kernel
theorem dX8_clear_13 : decode cX8_clear 13 = .ok (.ireturn, 1) := by decide +kernel
theorem dX8_clear_14 : decode cX8_clear 14 = .ok (.aload_n 0, 1) := by decide +kernel
theorem dX8_clear_15 : decode cX8_clear 15 = .ok (.iconst 0, 1) := by decide +kernel
theorem dX8_clear_16 : decode cX8_clear 16 = .ok (.putfield 24, 3) := by decide +kernel
theorem dX8_clear_19 : decode cX8_clear 19 = .ok (.iconst 1, 1) := by decide +kernel
theorem dX8_clear_20 : decode cX8_clear 20 = .ok (.ireturn, 1) := by decide +kernel
theorem dX8_unitOf_0 : decode cX8_unitOf 0 = .ok (.aload_n 0, 1) := by decide +kernel
theorem dX8_unitOf_1 : decode cX8_unitOf 1 = .ok (.getfield 42, 3) := by decide +kernel
theorem dX8_unitOf_4 : decode cX8_unitOf 4 = .ok (.aload_n 0, 1) := by decide +kernel
theorem dX8_unitOf_5 : decode cX8_unitOf 5 = .ok (.getfield 39, 3) := by decide +kernel
theorem dX8_unitOf_8 : decode cX8_unitOf 8 = .ok (.iload_n 1, 1) := by decide +kernel
theorem dX8_unitOf_9 : decode cX8_unitOf 9 = .ok (.iastore, 1) := by decide +kernel
theorem dX8_unitOf_10 : decode cX8_unitOf 10 = .ok (.aload_n 0, 1) := by decide +kernel
theorem dX8_unitOf_11 : decode cX8_unitOf 11 = .ok (.getfield 45, 3) := by decide +kernel
theorem dX8_unitOf_14 : decode cX8_unitOf 14 = .ok (.aload_n 0, 1) := by decide +kernel
theorem dX8_unitOf_15 : decode cX8_unitOf 15 = .ok (.getfield 39, 3) := by decide +kernel
theorem dX8_unitOf_18 : decode cX8_unitOf 18 = .ok (.iload_n 2, 1) := by decide +kernel
theorem dX8_unitOf_19 : decode cX8_unitOf 19 = .ok (.iastore, 1) := by decide +kernel
theorem dX8_unitOf_20 : decode cX8_unitOf 20 = .ok (.aload_n 0, 1) := by decide +kernel
theorem dX8_unitOf_21 : decode cX8_unitOf 21 = .ok (.getfield 48, 3) := by decide +kernel
theorem dX8_unitOf_24 : decode cX8_unitOf 24 = .ok (.aload_n 0, 1) := by decide +kernel
theorem dX8_unitOf_25 : decode cX8_unitOf 25 = .ok (.getfield 39, 3) := by decide +kernel
theorem dX8_unitOf_28 : decode cX8_unitOf 28 = .ok (.iload_n 3, 1) := by decide +kernel
theorem dX8_unitOf_29 : decode cX8_unitOf 29 = .ok (.iastore, 1) := by decide +kernel
theorem dX8_unitOf_30 : decode cX8_unitOf 30 = .ok (.aload_n 0, 1) := by decide +kernel
theorem dX8_unitOf_31 : decode cX8_unitOf 31 = .ok (.getfield 51, 3) := by decide +kernel
theorem dX8_unitOf_34 : decode cX8_unitOf 34 = .ok (.aload_n 0, 1) := by decide +kernel
theorem dX8_unitOf_35 : decode cX8_unitOf 35 = .ok (.getfield 39, 3) := by decide +kernel
theorem dX8_unitOf_38 : decode cX8_unitOf 38 = .ok (.iload 4, 2) := by decide +kernel
theorem dX8_unitOf_40 : decode cX8_unitOf 40 = .ok (.iastore, 1) := by decide +kernel
theorem dX8_unitOf_41 : decode cX8_unitOf 41 = .ok (.aload_n 0, 1) := by decide +kernel
theorem dX8_unitOf_42 : decode cX8_unitOf 42 = .ok (.getfield 54, 3) := by decide +kernel
theorem dX8_unitOf_45 : decode cX8_unitOf 45 = .ok (.aload_n 0, 1) := by decide +kernel
theorem dX8_unitOf_46 : decode cX8_unitOf 46 = .ok (.getfield 39, 3) := by decide +kernel
theorem dX8_unitOf_49 : decode cX8_unitOf 49 = .ok (.iload 5, 2) := by decide +kernel
theorem dX8_unitOf_51 : decode cX8_unitOf 51 = .ok (.sipush 255, 3) := by decide +kernel
theorem dX8_unitOf_54 : decode cX8_unitOf 54 = .ok (.iand, 1) := by decide +kernel
theorem dX8_unitOf_55 : decode cX8_unitOf 55 = .ok (.iastore, 1) := by decide +kernel
theorem dX8_unitOf_56 : decode cX8_unitOf 56 = .ok (.aload_n 0, 1) := by decide +kernel
theorem dX8_unitOf_57 : decode cX8_unitOf 57 = .ok (.dup, 1) := by decide +kernel
theorem dX8_unitOf_58 : decode cX8_unitOf 58 = .ok (.getfield 39, 3) := by decide +kernel
theorem dX8_unitOf_61 : decode cX8_unitOf 61 = .ok (.iconst 1, 1) := by decide +kernel
theorem dX8_unitOf_62 : decode cX8_unitOf 62 = .ok (.iadd, 1) := by decide +kernel
theorem dX8_unitOf_63 : decode cX8_unitOf 63 = .ok (.putfield 39, 3) := by decide +kernel
theorem dX8_unitOf_66 : decode cX8_unitOf 66 = .ok (.return_, 1) := by decide +kernel
set_option maxRecDepth 20000 in
theorem ggX8_layOut_X8_unitOf : GoodIn wsX8_layOut wsX8_unitOf := goodIn_r _ [9, 10, 1, 11, 12, 13, 14, 15, 16, 17, 18, 19, 20, 21, 22, 23, 24, 25, 26, 27, 28, 29, 30, 31, 32, 33, 34, 35, 36, 37, 38, 39, 40, 41, 42, 43, 44, 45, 46, 47, 48, 49, 50, 51, 52, 53] (by decide +kernel) (by decide +kernel)
set_option maxRecDepth 20000 in
theorem gX8_layOut_X8_unitOf : GoodIn wsX8_layOut (wsV RX8 132 RX8 yX8_unitOf wsX8_unitOf) := goodIn_app (goodIn_of _ (by decide +kernel)) ggX8_layOut_X8_unitOf
theorem dX8_layOut_0 : decode cX8_layOut 0 = .ok (.aload_n 0, 1) := by decide +kernel
theorem dX8_layOut_1 : decode cX8_layOut 1 = .ok (.iconst 0, 1) := by decide +kernel
theorem dX8_layOut_2 : decode cX8_layOut 2 = .ok (.putfield 39, 3) := by decide +kernel
theorem dX8_layOut_5 : decode cX8_layOut 5 = .ok (.aload_n 0, 1) := by decide +kernel
theorem dX8_layOut_6 : decode cX8_layOut 6 = .ok (.getfield 64, 3) := by decide +kernel
theorem dX8_layOut_9 : decode cX8_layOut 9 = .ok (.iconst 3, 1) := by decide +kernel
theorem dX8_layOut_10 : decode cX8_layOut 10 = .ok (.if_icmp .ne 10, 3) := by decide +kernel
theorem dX8_layOut_13 : decode cX8_layOut 13 = .ok (.aload_n 0, 1) := by decide +kernel
theorem dX8_layOut_14 : decode cX8_layOut 14 = .ok (.getfield 24, 3) := by decide +kernel
theorem dX8_layOut_17 : decode cX8_layOut 17 = .ok (.goto 4, 3) := by decide +kernel
theorem dX8_layOut_20 : decode cX8_layOut 20 = .ok (.iconst 1, 1) := by decide +kernel
theorem dX8_layOut_21 : decode cX8_layOut 21 = .ok (.istore_n 1, 1) := by decide +kernel
theorem dX8_layOut_22 : decode cX8_layOut 22 = .ok (.iconst 0, 1) := by decide +kernel
theorem dX8_layOut_23 : decode cX8_layOut 23 = .ok (.istore_n 2, 1) := by decide +kernel
theorem dX8_layOut_24 : decode cX8_layOut 24 = .ok (.iload_n 2, 1) := by decide +kernel
theorem dX8_layOut_25 : decode cX8_layOut 25 = .ok (.iload_n 1, 1) := by decide +kernel
theorem dX8_layOut_26 : decode cX8_layOut 26 = .ok (.if_icmp .ge 107, 3) := by decide +kernel
theorem dX8_layOut_29 : decode cX8_layOut 29 = .ok (.aload_n 0, 1) := by decide +kernel
theorem dX8_layOut_30 : decode cX8_layOut 30 = .ok (.getfield 64, 3) := by decide +kernel
theorem dX8_layOut_33 : decode cX8_layOut 33 = .ok (.iconst 3, 1) := by decide +kernel
theorem dX8_layOut_34 : decode cX8_layOut 34 = .ok (.if_icmp .ne 14, 3) := by decide +kernel
theorem dX8_layOut_37 : decode cX8_layOut 37 = .ok (.aload_n 0, 1) := by decide +kernel
theorem dX8_layOut_38 : decode cX8_layOut 38 = .ok (.iconst 2, 1) := by decide +kernel
theorem dX8_layOut_39 : decode cX8_layOut 39 = .ok (.iload_n 2, 1) := by decide +kernel
theorem dX8_layOut_40 : decode cX8_layOut 40 = .ok (.iconst 0, 1) := by decide +kernel
theorem dX8_layOut_41 : decode cX8_layOut 41 = .ok (.sipush 128, 3) := by decide +kernel
theorem dX8_layOut_44 : decode cX8_layOut 44 = .ok (.iconst 0, 1) := by decide +kernel
theorem dX8_layOut_45 : decode cX8_layOut 45 = .ok (.invokevirtual 132, 3) := by decide +kernel
theorem dX8_layOut_48 : decode cX8_layOut 48 = .ok (.iconst 0, 1) := by decide +kernel
theorem dX8_layOut_49 : decode cX8_layOut 49 = .ok (.istore_n 3, 1) := by decide +kernel
theorem dX8_layOut_50 : decode cX8_layOut 50 = .ok (.iconst 1, 1) := by decide +kernel
theorem dX8_layOut_51 : decode cX8_layOut 51 = .ok (.istore 4, 2) := by decide +kernel
theorem dX8_layOut_53 : decode cX8_layOut 53 = .ok (.iload_n 3, 1) := by decide +kernel
theorem dX8_layOut_54 : decode cX8_layOut 54 = .ok (.aload_n 0, 1) := by decide +kernel
theorem dX8_layOut_55 : decode cX8_layOut 55 = .ok (.getfield 36, 3) := by decide +kernel
theorem dX8_layOut_58 : decode cX8_layOut 58 = .ok (.iload_n 2, 1) := by decide +kernel
theorem dX8_layOut_59 : decode cX8_layOut 59 = .ok (.iaload, 1) := by decide +kernel
theorem dX8_layOut_60 : decode cX8_layOut 60 = .ok (.if_icmp .ge 58, 3) := by decide +kernel
theorem dX8_layOut_63 : decode cX8_layOut 63 = .ok (.aload_n 0, 1) := by decide +kernel
theorem dX8_layOut_64 : decode cX8_layOut 64 = .ok (.getfield 64, 3) := by decide +kernel
theorem dX8_layOut_67 : decode cX8_layOut 67 = .ok (.iconst 2, 1) := by decide +kernel
theorem dX8_layOut_68 : decode cX8_layOut 68 = .ok (.if_icmp .lt 23, 3) := by decide +kernel
theorem dX8_layOut_71 : decode cX8_layOut 71 = .ok (.aload_n 0, 1) := by decide +kernel
theorem dX8_layOut_72 : decode cX8_layOut 72 = .ok (.getfield 36, 3) := by decide +kernel
theorem dX8_layOut_75 : decode cX8_layOut 75 = .ok (.iload_n 2, 1) := by decide +kernel
theorem dX8_layOut_76 : decode cX8_layOut 76 = .ok (.iaload, 1) := by decide +kernel
theorem dX8_layOut_77 : decode cX8_layOut 77 = .ok (.iload_n 3, 1) := by decide +kernel
theorem dX8_layOut_78 : decode cX8_layOut 78 = .ok (.isub, 1) := by decide +kernel
theorem dX8_layOut_79 : decode cX8_layOut 79 = .ok (.sipush 896, 3) := by decide +kernel
theorem dX8_layOut_82 : decode cX8_layOut 82 = .ok (.if_icmp .le 9, 3) := by decide +kernel
theorem dX8_layOut_85 : decode cX8_layOut 85 = .ok (.sipush 1024, 3) := by decide +kernel
theorem dX8_layOut_88 : decode cX8_layOut 88 = .ok (.goto 6, 3) := by decide +kernel
theorem dX8_layOut_91 : decode cX8_layOut 91 = .ok (.sipush 128, 3) := by decide +kernel
theorem dX8_layOut_94 : decode cX8_layOut 94 = .ok (.istore 5, 2) := by decide +kernel
theorem dX8_layOut_96 : decode cX8_layOut 96 = .ok (.aload_n 0, 1) := by decide +kernel
theorem dX8_layOut_97 : decode cX8_layOut 97 = .ok (.iconst 0, 1) := by decide +kernel
theorem dX8_layOut_98 : decode cX8_layOut 98 = .ok (.iload_n 2, 1) := by decide +kernel
theorem dX8_layOut_99 : decode cX8_layOut 99 = .ok (.iload_n 3, 1) := by decide +kernel
theorem dX8_layOut_100 : decode cX8_layOut 100 = .ok (.iload 5, 2) := by decide +kernel
theorem dX8_layOut_102 : decode cX8_layOut 102 = .ok (.iload 4, 2) := by decide +kernel
theorem dX8_layOut_104 : decode cX8_layOut 104 = .ok (.invokevirtual 132, 3) := by decide +kernel
theorem dX8_layOut_107 : decode cX8_layOut 107 = .ok (.iinc 4 1, 3) := by decide +kernel
theorem dX8_layOut_110 : decode cX8_layOut 110 = .ok (.iload_n 3, 1) := by decide +kernel
theorem dX8_layOut_111 : decode cX8_layOut 111 = .ok (.iload 5, 2) := by decide +kernel
theorem dX8_layOut_113 : decode cX8_layOut 113 = .ok (.iadd, 1) := by decide +kernel
theorem dX8_layOut_114 : decode cX8_layOut 114 = .ok (.istore_n 3, 1) := by decide +kernel
theorem dX8_layOut_115 : decode cX8_layOut 115 = .ok (.goto (-62), 3) := by decide +kernel
theorem dX8_layOut_118 : decode cX8_layOut 118 = .ok (.aload_n 0, 1) := by decide +kernel
theorem dX8_layOut_119 : decode cX8_layOut 119 = .ok (.iconst 1, 1) := by decide +kernel
theorem dX8_layOut_120 : decode cX8_layOut 120 = .ok (.iload_n 2, 1) := by decide +kernel
theorem dX8_layOut_121 : decode cX8_layOut 121 = .ok (.iconst 0, 1) := by decide +kernel
theorem dX8_layOut_122 : decode cX8_layOut 122 = .ok (.iconst 0, 1) := by decide +kernel
theorem dX8_layOut_123 : decode cX8_layOut 123 = .ok (.iconst 0, 1) := by decide +kernel
theorem dX8_layOut_124 : decode cX8_layOut 124 = .ok (.invokevirtual 132, 3) := by decide +kernel
theorem dX8_layOut_127 : decode cX8_layOut 127 = .ok (.iinc 2 1, 3) := by decide +kernel
theorem dX8_layOut_130 : decode cX8_layOut 130 = .ok (.goto (-106), 3) := by decide +kernel
theorem dX8_layOut_133 : decode cX8_layOut 133 = .ok (.aload_n 0, 1) := by decide +kernel
theorem dX8_layOut_134 : decode cX8_layOut 134 = .ok (.getfield 64, 3) := by decide +kernel
theorem dX8_layOut_137 : decode cX8_layOut 137 = .ok (.iconst 3, 1) := by decide +kernel
theorem dX8_layOut_138 : decode cX8_layOut 138 = .ok (.if_icmp .ne 14, 3) := by decide +kernel
theorem dX8_layOut_141 : decode cX8_layOut 141 = .ok (.aload_n 0, 1) := by decide +kernel
theorem dX8_layOut_142 : decode cX8_layOut 142 = .ok (.iconst 3, 1) := by decide +kernel
theorem dX8_layOut_143 : decode cX8_layOut 143 = .ok (.iconst 0, 1) := by decide +kernel
theorem dX8_layOut_144 : decode cX8_layOut 144 = .ok (.iconst 0, 1) := by decide +kernel
theorem dX8_layOut_145 : decode cX8_layOut 145 = .ok (.sipush 128, 3) := by decide +kernel
theorem dX8_layOut_148 : decode cX8_layOut 148 = .ok (.iconst 0, 1) := by decide +kernel
theorem dX8_layOut_149 : decode cX8_layOut 149 = .ok (.invokevirtual 132, 3) := by decide +kernel
theorem dX8_layOut_152 : decode cX8_layOut 152 = .ok (.return_, 1) := by decide +kernel
theorem dX8_byteOn_0 : decode cX8_byteOn 0 = .ok (.aload_n 0, 1) := by decide +kernel
theorem dX8_byteOn_1 : decode cX8_byteOn 1 = .ok (.getfield 67, 3) := by decide +kernel
theorem dX8_byteOn_4 : decode cX8_byteOn 4 = .ok (.iconst 0, 1) := by decide +kernel
theorem dX8_byteOn_5 : decode cX8_byteOn 5 = .ok (.iload_n 1, 1) := by decide +kernel
theorem dX8_byteOn_6 : decode cX8_byteOn 6 = .ok (.i2b, 1) := by decide +kernel
theorem dX8_byteOn_7 : decode cX8_byteOn 7 = .ok (.bastore, 1) := by decide +kernel
theorem dX8_byteOn_8 : decode cX8_byteOn 8 = .ok (.aload_n 0, 1) := by decide +kernel
theorem dX8_byteOn_9 : decode cX8_byteOn 9 = .ok (.iconst 1, 1) := by decide +kernel
theorem dX8_byteOn_10 : decode cX8_byteOn 10 = .ok (.putfield 70, 3) := by decide +kernel
theorem dX8_byteOn_13 : decode cX8_byteOn 13 = .ok (.return_, 1) := by decide +kernel
theorem dX8_check_0 : decode cX8_check 0 = .ok (.iconst 0, 1) := by decide +kernel
theorem dX8_check_1 : decode cX8_check 1 = .ok (.istore_n 3, 1) := by decide +kernel
end
section
theorem dX8_check_2 : decode cX8_check 2 = .ok (.iconst 0, 1) := by decide +kernel
theorem dX8_check_3 : decode cX8_check 3 = .ok (.istore 4, 2) := by decide +kernel
theorem dX8_check_5 : decode cX8_check 5 = .ok (.iload 4, 2) := by decide +kernel
theorem dX8_check_7 : decode cX8_check 7 = .ok (.iload_n 2, 1) := by decide +kernel
theorem dX8_check_8 : decode cX8_check 8 = .ok (.if_icmp .ge 88, 3) := by decide +kernel
theorem dX8_check_11 : decode cX8_check 11 = .ok (.aload_n 0, 1) := by decide +kernel
theorem dX8_check_12 : decode cX8_check 12 = .ok (.getfield 67, 3) := by decide +kernel
theorem dX8_check_15 : decode cX8_check 15 = .ok (.iload_n 1, 1) := by decide +kernel
theorem dX8_check_16 : decode cX8_check 16 = .ok (.iload 4, 2) := by decide +kernel
theorem dX8_check_18 : decode cX8_check 18 = .ok (.iadd, 1) := by decide +kernel
theorem dX8_check_19 : decode cX8_check 19 = .ok (.baload, 1) := by decide +kernel
theorem dX8_check_20 : decode cX8_check 20 = .ok (.sipush 255, 3) := by decide +kernel
theorem dX8_check_23 : decode cX8_check 23 = .ok (.iand, 1) := by decide +kernel
theorem dX8_check_24 : decode cX8_check 24 = .ok (.istore 5, 2) := by decide +kernel
theorem dX8_check_26 : decode cX8_check 26 = .ok (.aload_n 0, 1) := by decide +kernel
theorem dX8_check_27 : decode cX8_check 27 = .ok (.getfield 64, 3) := by decide +kernel
theorem dX8_check_30 : decode cX8_check 30 = .ok (.ifCond .ne 15, 3) := by decide +kernel
theorem dX8_check_33 : decode cX8_check 33 = .ok (.iload_n 3, 1) := by decide +kernel
theorem dX8_check_34 : decode cX8_check 34 = .ok (.iload 5, 2) := by decide +kernel
theorem dX8_check_36 : decode cX8_check 36 = .ok (.iadd, 1) := by decide +kernel
theorem dX8_check_37 : decode cX8_check 37 = .ok (.sipush 255, 3) := by decide +kernel
theorem dX8_check_40 : decode cX8_check 40 = .ok (.iand, 1) := by decide +kernel
theorem dX8_check_41 : decode cX8_check 41 = .ok (.istore_n 3, 1) := by decide +kernel
theorem dX8_check_42 : decode cX8_check 42 = .ok (.goto 48, 3) := by decide +kernel
theorem dX8_check_45 : decode cX8_check 45 = .ok (.iload_n 3, 1) := by decide +kernel
theorem dX8_check_46 : decode cX8_check 46 = .ok (.iconst 4, 1) := by decide +kernel
theorem dX8_check_47 : decode cX8_check 47 = .ok (.ishl, 1) := by decide +kernel
theorem dX8_check_48 : decode cX8_check 48 = .ok (.ldc 131, 2) := by decide +kernel
theorem dX8_check_50 : decode cX8_check 50 = .ok (.iand, 1) := by decide +kernel
theorem dX8_check_51 : decode cX8_check 51 = .ok (.aload_n 0, 1) := by decide +kernel
theorem dX8_check_52 : decode cX8_check 52 = .ok (.getfield 13, 3) := by decide +kernel
theorem dX8_check_55 : decode cX8_check 55 = .ok (.iload_n 3, 1) := by decide +kernel
theorem dX8_check_56 : decode cX8_check 56 = .ok (.bipush 12, 2) := by decide +kernel
theorem dX8_check_58 : decode cX8_check 58 = .ok (.ishr, 1) := by decide +kernel
theorem dX8_check_59 : decode cX8_check 59 = .ok (.iload 5, 2) := by decide +kernel
theorem dX8_check_61 : decode cX8_check 61 = .ok (.iconst 4, 1) := by decide +kernel
theorem dX8_check_62 : decode cX8_check 62 = .ok (.ishr, 1) := by decide +kernel
theorem dX8_check_63 : decode cX8_check 63 = .ok (.ixor, 1) := by decide +kernel
theorem dX8_check_64 : decode cX8_check 64 = .ok (.iaload, 1) := by decide +kernel
theorem dX8_check_65 : decode cX8_check 65 = .ok (.ixor, 1) := by decide +kernel
theorem dX8_check_66 : decode cX8_check 66 = .ok (.istore_n 3, 1) := by decide +kernel
theorem dX8_check_67 : decode cX8_check 67 = .ok (.iload_n 3, 1) := by decide +kernel
theorem dX8_check_68 : decode cX8_check 68 = .ok (.iconst 4, 1) := by decide +kernel
theorem dX8_check_69 : decode cX8_check 69 = .ok (.ishl, 1) := by decide +kernel
theorem dX8_check_70 : decode cX8_check 70 = .ok (.ldc 131, 2) := by decide +kernel
theorem dX8_check_72 : decode cX8_check 72 = .ok (.iand, 1) := by decide +kernel
theorem dX8_check_73 : decode cX8_check 73 = .ok (.aload_n 0, 1) := by decide +kernel
theorem dX8_check_74 : decode cX8_check 74 = .ok (.getfield 13, 3) := by decide +kernel
theorem dX8_check_77 : decode cX8_check 77 = .ok (.iload_n 3, 1) := by decide +kernel
theorem dX8_check_78 : decode cX8_check 78 = .ok (.bipush 12, 2) := by decide +kernel
theorem dX8_check_80 : decode cX8_check 80 = .ok (.ishr, 1) := by decide +kernel
theorem dX8_check_81 : decode cX8_check 81 = .ok (.iload 5, 2) := by decide +kernel
theorem dX8_check_83 : decode cX8_check 83 = .ok (.bipush 15, 2) := by decide +kernel
theorem dX8_check_85 : decode cX8_check 85 = .ok (.iand, 1) := by decide +kernel
theorem dX8_check_86 : decode cX8_check 86 = .ok (.ixor, 1) := by decide +kernel
theorem dX8_check_87 : decode cX8_check 87 = .ok (.iaload, 1) := by decide +kernel
theorem dX8_check_88 : decode cX8_check 88 = .ok (.ixor, 1) := by decide +kernel
theorem dX8_check_89 : decode cX8_check 89 = .ok (.istore_n 3, 1) := by decide +kernel
theorem dX8_check_90 : decode cX8_check 90 = .ok (.iinc 4 1, 3) := by decide +kernel
theorem dX8_check_93 : decode cX8_check 93 = .ok (.goto (-88), 3) := by decide +kernel
theorem dX8_check_96 : decode cX8_check 96 = .ok (.iload_n 3, 1) := by decide +kernel
theorem dX8_check_97 : decode cX8_check 97 = .ok (.ireturn, 1) := by decide +kernel
set_option maxRecDepth 20000 in
theorem ggX8_sendUnit_X8_byteOn : GoodIn wsX8_sendUnit wsX8_byteOn := goodIn_r _ [18, 5, 12, 25, 26, 27, 28, 29, 30, 31, 32, 33, 34, 35, 36, 37, 38, 39, 40, 41, 42, 43, 44, 45, 46, 47, 48, 49, 50, 51, 52, 53, 54, 55, 56, 57, 58, 59, 60, 61, 62, 63] (by decide +kernel) (by decide +kernel)
set_option maxRecDepth 20000 in
theorem gX8_sendUnit_X8_byteOn : GoodIn wsX8_sendUnit (wsV RX8 136 RX8 yX8_byteOn wsX8_byteOn) := goodIn_app (goodIn_of _ (by decide +kernel)) ggX8_sendUnit_X8_byteOn
set_option maxRecDepth 20000 in
theorem ggX8_sendUnit_X8_check : GoodIn wsX8_sendUnit wsX8_check := goodIn_r _ [22, 5, 13, 23, 24, 25, 26, 27, 28, 29, 30, 31, 32, 33, 34, 35, 36, 37, 38, 39, 40, 41, 42, 43, 44, 45, 46, 47, 48, 49, 50, 51, 52, 53, 54, 55, 56, 57, 58, 59, 60, 61, 62, 63] (by decide +kernel) (by decide +kernel)
set_option maxRecDepth 20000 in
theorem gX8_sendUnit_X8_check : GoodIn wsX8_sendUnit (wsV RX8 140 RX8 yX8_check wsX8_check) := goodIn_app (goodIn_of _ (by decide +kernel)) ggX8_sendUnit_X8_check
theorem dX8_sendUnit_0 : decode cX8_sendUnit 0 = .ok (.aload_n 0, 1) := by decide +kernel
theorem dX8_sendUnit_1 : decode cX8_sendUnit 1 = .ok (.getfield 42, 3) := by decide +kernel
theorem dX8_sendUnit_4 : decode cX8_sendUnit 4 = .ok (.aload_n 0, 1) := by decide +kernel
theorem dX8_sendUnit_5 : decode cX8_sendUnit 5 = .ok (.getfield 91, 3) := by decide +kernel
theorem dX8_sendUnit_8 : decode cX8_sendUnit 8 = .ok (.iaload, 1) := by decide +kernel
theorem dX8_sendUnit_9 : decode cX8_sendUnit 9 = .ok (.istore_n 1, 1) := by decide +kernel
theorem dX8_sendUnit_10 : decode cX8_sendUnit 10 = .ok (.iload_n 1, 1) := by decide +kernel
theorem dX8_sendUnit_11 : decode cX8_sendUnit 11 = .ok (.iconst 1, 1) := by decide +kernel
theorem dX8_sendUnit_12 : decode cX8_sendUnit 12 = .ok (.if_icmp .ne 9, 3) := by decide +kernel
theorem dX8_sendUnit_15 : decode cX8_sendUnit 15 = .ok (.aload_n 0, 1) := by decide +kernel
theorem dX8_sendUnit_16 : decode cX8_sendUnit 16 = .ok (.iconst 4, 1) := by decide +kernel
theorem dX8_sendUnit_17 : decode cX8_sendUnit 17 = .ok (.invokevirtual 136, 3) := by decide +kernel
theorem dX8_sendUnit_20 : decode cX8_sendUnit 20 = .ok (.return_, 1) := by decide +kernel
theorem dX8_sendUnit_21 : decode cX8_sendUnit 21 = .ok (.aload_n 0, 1) := by decide +kernel
theorem dX8_sendUnit_22 : decode cX8_sendUnit 22 = .ok (.getfield 51, 3) := by decide +kernel
theorem dX8_sendUnit_25 : decode cX8_sendUnit 25 = .ok (.aload_n 0, 1) := by decide +kernel
theorem dX8_sendUnit_26 : decode cX8_sendUnit 26 = .ok (.getfield 91, 3) := by decide +kernel
theorem dX8_sendUnit_29 : decode cX8_sendUnit 29 = .ok (.iaload, 1) := by decide +kernel
theorem dX8_sendUnit_30 : decode cX8_sendUnit 30 = .ok (.istore_n 2, 1) := by decide +kernel
theorem dX8_sendUnit_31 : decode cX8_sendUnit 31 = .ok (.aload_n 0, 1) := by decide +kernel
theorem dX8_sendUnit_32 : decode cX8_sendUnit 32 = .ok (.getfield 45, 3) := by decide +kernel
theorem dX8_sendUnit_35 : decode cX8_sendUnit 35 = .ok (.aload_n 0, 1) := by decide +kernel
theorem dX8_sendUnit_36 : decode cX8_sendUnit 36 = .ok (.getfield 91, 3) := by decide +kernel
theorem dX8_sendUnit_39 : decode cX8_sendUnit 39 = .ok (.iaload, 1) := by decide +kernel
theorem dX8_sendUnit_40 : decode cX8_sendUnit 40 = .ok (.istore_n 3, 1) := by decide +kernel
theorem dX8_sendUnit_41 : decode cX8_sendUnit 41 = .ok (.aload_n 0, 1) := by decide +kernel
theorem dX8_sendUnit_42 : decode cX8_sendUnit 42 = .ok (.getfield 67, 3) := by decide +kernel
theorem dX8_sendUnit_45 : decode cX8_sendUnit 45 = .ok (.iconst 0, 1) := by decide +kernel
theorem dX8_sendUnit_46 : decode cX8_sendUnit 46 = .ok (.iload_n 2, 1) := by decide +kernel
theorem dX8_sendUnit_47 : decode cX8_sendUnit 47 = .ok (.sipush 128, 3) := by decide +kernel
theorem dX8_sendUnit_50 : decode cX8_sendUnit 50 = .ok (.if_icmp .ne 7, 3) := by decide +kernel
theorem dX8_sendUnit_53 : decode cX8_sendUnit 53 = .ok (.iconst 1, 1) := by decide +kernel
theorem dX8_sendUnit_54 : decode cX8_sendUnit 54 = .ok (.goto 4, 3) := by decide +kernel
theorem dX8_sendUnit_57 : decode cX8_sendUnit 57 = .ok (.iconst 2, 1) := by decide +kernel
theorem dX8_sendUnit_58 : decode cX8_sendUnit 58 = .ok (.i2b, 1) := by decide +kernel
theorem dX8_sendUnit_59 : decode cX8_sendUnit 59 = .ok (.bastore, 1) := by decide +kernel
theorem dX8_sendUnit_60 : decode cX8_sendUnit 60 = .ok (.aload_n 0, 1) := by decide +kernel
theorem dX8_sendUnit_61 : decode cX8_sendUnit 61 = .ok (.getfield 67, 3) := by decide +kernel
theorem dX8_sendUnit_64 : decode cX8_sendUnit 64 = .ok (.iconst 1, 1) := by decide +kernel
theorem dX8_sendUnit_65 : decode cX8_sendUnit 65 = .ok (.aload_n 0, 1) := by decide +kernel
theorem dX8_sendUnit_66 : decode cX8_sendUnit 66 = .ok (.getfield 54, 3) := by decide +kernel
theorem dX8_sendUnit_69 : decode cX8_sendUnit 69 = .ok (.aload_n 0, 1) := by decide +kernel
theorem dX8_sendUnit_70 : decode cX8_sendUnit 70 = .ok (.getfield 91, 3) := by decide +kernel
theorem dX8_sendUnit_73 : decode cX8_sendUnit 73 = .ok (.iaload, 1) := by decide +kernel
theorem dX8_sendUnit_74 : decode cX8_sendUnit 74 = .ok (.i2b, 1) := by decide +kernel
theorem dX8_sendUnit_75 : decode cX8_sendUnit 75 = .ok (.bastore, 1) := by decide +kernel
theorem dX8_sendUnit_76 : decode cX8_sendUnit 76 = .ok (.aload_n 0, 1) := by decide +kernel
theorem dX8_sendUnit_77 : decode cX8_sendUnit 77 = .ok (.getfield 67, 3) := by decide +kernel
theorem dX8_sendUnit_80 : decode cX8_sendUnit 80 = .ok (.iconst 2, 1) := by decide +kernel
theorem dX8_sendUnit_81 : decode cX8_sendUnit 81 = .ok (.sipush 255, 3) := by decide +kernel
theorem dX8_sendUnit_84 : decode cX8_sendUnit 84 = .ok (.aload_n 0, 1) := by decide +kernel
theorem dX8_sendUnit_85 : decode cX8_sendUnit 85 = .ok (.getfield 54, 3) := by decide +kernel
theorem dX8_sendUnit_88 : decode cX8_sendUnit 88 = .ok (.aload_n 0, 1) := by decide +kernel
theorem dX8_sendUnit_89 : decode cX8_sendUnit 89 = .ok (.getfield 91, 3) := by decide +kernel
theorem dX8_sendUnit_92 : decode cX8_sendUnit 92 = .ok (.iaload, 1) := by decide +kernel
theorem dX8_sendUnit_93 : decode cX8_sendUnit 93 = .ok (.isub, 1) := by decide +kernel
theorem dX8_sendUnit_94 : decode cX8_sendUnit 94 = .ok (.i2b, 1) := by decide +kernel
theorem dX8_sendUnit_95 : decode cX8_sendUnit 95 = .ok (.bastore, 1) := by decide +kernel
theorem dX8_sendUnit_96 : decode cX8_sendUnit 96 = .ok (.iconst 0, 1) := by decide +kernel
theorem dX8_sendUnit_97 : decode cX8_sendUnit 97 = .ok (.istore 4, 2) := by decide +kernel
theorem dX8_sendUnit_99 : decode cX8_sendUnit 99 = .ok (.iload 4, 2) := by decide +kernel
theorem dX8_sendUnit_101 : decode cX8_sendUnit 101 = .ok (.iload_n 2, 1) := by decide +kernel
theorem dX8_sendUnit_102 : decode cX8_sendUnit 102 = .ok (.if_icmp .ge 69, 3) := by decide +kernel
theorem dX8_sendUnit_105 : decode cX8_sendUnit 105 = .ok (.aload_n 0, 1) := by decide +kernel
theorem dX8_sendUnit_106 : decode cX8_sendUnit 106 = .ok (.getfield 48, 3) := by decide +kernel
theorem dX8_sendUnit_109 : decode cX8_sendUnit 109 = .ok (.aload_n 0, 1) := by decide +kernel
theorem dX8_sendUnit_110 : decode cX8_sendUnit 110 = .ok (.getfield 91, 3) := by decide +kernel
theorem dX8_sendUnit_113 : decode cX8_sendUnit 113 = .ok (.iaload, 1) := by decide +kernel
theorem dX8_sendUnit_114 : decode cX8_sendUnit 114 = .ok (.iload 4, 2) := by decide +kernel
theorem dX8_sendUnit_116 : decode cX8_sendUnit 116 = .ok (.iadd, 1) := by decide +kernel
theorem dX8_sendUnit_117 : decode cX8_sendUnit 117 = .ok (.istore 5, 2) := by decide +kernel
theorem dX8_sendUnit_119 : decode cX8_sendUnit 119 = .ok (.aload_n 0, 1) := by decide +kernel
theorem dX8_sendUnit_120 : decode cX8_sendUnit 120 = .ok (.getfield 67, 3) := by decide +kernel
theorem dX8_sendUnit_123 : decode cX8_sendUnit 123 = .ok (.iconst 3, 1) := by decide +kernel
theorem dX8_sendUnit_124 : decode cX8_sendUnit 124 = .ok (.iload 4, 2) := by decide +kernel
theorem dX8_sendUnit_126 : decode cX8_sendUnit 126 = .ok (.iadd, 1) := by decide +kernel
theorem dX8_sendUnit_127 : decode cX8_sendUnit 127 = .ok (.iload_n 1, 1) := by decide +kernel
theorem dX8_sendUnit_128 : decode cX8_sendUnit 128 = .ok (.ifCond .eq 7, 3) := by decide +kernel
theorem dX8_sendUnit_131 : decode cX8_sendUnit 131 = .ok (.iconst 0, 1) := by decide +kernel
theorem dX8_sendUnit_132 : decode cX8_sendUnit 132 = .ok (.goto 32, 3) := by decide +kernel
theorem dX8_sendUnit_135 : decode cX8_sendUnit 135 = .ok (.iload 5, 2) := by decide +kernel
theorem dX8_sendUnit_137 : decode cX8_sendUnit 137 = .ok (.aload_n 0, 1) := by decide +kernel
theorem dX8_sendUnit_138 : decode cX8_sendUnit 138 = .ok (.getfield 36, 3) := by decide +kernel
theorem dX8_sendUnit_141 : decode cX8_sendUnit 141 = .ok (.iload_n 3, 1) := by decide +kernel
theorem dX8_sendUnit_142 : decode cX8_sendUnit 142 = .ok (.iaload, 1) := by decide +kernel
theorem dX8_sendUnit_143 : decode cX8_sendUnit 143 = .ok (.if_icmp .ge 19, 3) := by decide +kernel
theorem dX8_sendUnit_146 : decode cX8_sendUnit 146 = .ok (.aload_n 0, 1) := by decide +kernel
theorem dX8_sendUnit_147 : decode cX8_sendUnit 147 = .ok (.getfield 33, 3) := by decide +kernel
theorem dX8_sendUnit_150 : decode cX8_sendUnit 150 = .ok (.sipush 3000, 3) := by decide +kernel
theorem dX8_sendUnit_153 : decode cX8_sendUnit 153 = .ok (.iload_n 3, 1) := by decide +kernel
theorem dX8_sendUnit_154 : decode cX8_sendUnit 154 = .ok (.imul, 1) := by decide +kernel
theorem dX8_sendUnit_155 : decode cX8_sendUnit 155 = .ok (.iload 5, 2) := by decide +kernel
theorem dX8_sendUnit_157 : decode cX8_sendUnit 157 = .ok (.iadd, 1) := by decide +kernel
theorem dX8_sendUnit_158 : decode cX8_sendUnit 158 = .ok (.baload, 1) := by decide +kernel
theorem dX8_sendUnit_159 : decode cX8_sendUnit 159 = .ok (.goto 5, 3) := by decide +kernel
theorem dX8_sendUnit_162 : decode cX8_sendUnit 162 = .ok (.bipush 26, 2) := by decide +kernel
theorem dX8_sendUnit_164 : decode cX8_sendUnit 164 = .ok (.bastore, 1) := by decide +kernel
theorem dX8_sendUnit_165 : decode cX8_sendUnit 165 = .ok (.iinc 4 1, 3) := by decide +kernel
theorem dX8_sendUnit_168 : decode cX8_sendUnit 168 = .ok (.goto (-69), 3) := by decide +kernel
theorem dX8_sendUnit_171 : decode cX8_sendUnit 171 = .ok (.iload_n 1, 1) := by decide +kernel
theorem dX8_sendUnit_172 : decode cX8_sendUnit 172 = .ok (.iconst 2, 1) := by decide +kernel
theorem dX8_sendUnit_173 : decode cX8_sendUnit 173 = .ok (.if_icmp .ne 135, 3) := by decide +kernel
theorem dX8_sendUnit_176 : decode cX8_sendUnit 176 = .ok (.iconst 0, 1) := by decide +kernel
theorem dX8_sendUnit_177 : decode cX8_sendUnit 177 = .ok (.istore 4, 2) := by decide +kernel
theorem dX8_sendUnit_179 : decode cX8_sendUnit 179 = .ok (.iload 4, 2) := by decide +kernel
theorem dX8_sendUnit_181 : decode cX8_sendUnit 181 = .ok (.aload_n 0, 1) := by decide +kernel
theorem dX8_sendUnit_182 : decode cX8_sendUnit 182 = .ok (.getfield 30, 3) := by decide +kernel
theorem dX8_sendUnit_185 : decode cX8_sendUnit 185 = .ok (.iload_n 3, 1) := by decide +kernel
theorem dX8_sendUnit_186 : decode cX8_sendUnit 186 = .ok (.iaload, 1) := by decide +kernel
theorem dX8_sendUnit_187 : decode cX8_sendUnit 187 = .ok (.if_icmp .ge 30, 3) := by decide +kernel
theorem dX8_sendUnit_190 : decode cX8_sendUnit 190 = .ok (.aload_n 0, 1) := by decide +kernel
theorem dX8_sendUnit_191 : decode cX8_sendUnit 191 = .ok (.getfield 67, 3) := by decide +kernel
theorem dX8_sendUnit_194 : decode cX8_sendUnit 194 = .ok (.iconst 3, 1) := by decide +kernel
theorem dX8_sendUnit_195 : decode cX8_sendUnit 195 = .ok (.iload 4, 2) := by decide +kernel
theorem dX8_sendUnit_197 : decode cX8_sendUnit 197 = .ok (.iadd, 1) := by decide +kernel
theorem dX8_sendUnit_198 : decode cX8_sendUnit 198 = .ok (.aload_n 0, 1) := by decide +kernel
theorem dX8_sendUnit_199 : decode cX8_sendUnit 199 = .ok (.getfield 27, 3) := by decide +kernel
theorem dX8_sendUnit_202 : decode cX8_sendUnit 202 = .ok (.bipush 12, 2) := by decide +kernel
theorem dX8_sendUnit_204 : decode cX8_sendUnit 204 = .ok (.iload_n 3, 1) := by decide +kernel
theorem dX8_sendUnit_205 : decode cX8_sendUnit 205 = .ok (.imul, 1) := by decide +kernel
theorem dX8_sendUnit_206 : decode cX8_sendUnit 206 = .ok (.iload 4, 2) := by decide +kernel
theorem dX8_sendUnit_208 : decode cX8_sendUnit 208 = .ok (.iadd, 1) := by decide +kernel
theorem dX8_sendUnit_209 : decode cX8_sendUnit 209 = .ok (.baload, 1) := by decide +kernel
theorem dX8_sendUnit_210 : decode cX8_sendUnit 210 = .ok (.bastore, 1) := by decide +kernel
theorem dX8_sendUnit_211 : decode cX8_sendUnit 211 = .ok (.iinc 4 1, 3) := by decide +kernel
theorem dX8_sendUnit_214 : decode cX8_sendUnit 214 = .ok (.goto (-35), 3) := by decide +kernel
theorem dX8_sendUnit_217 : decode cX8_sendUnit 217 = .ok (.iconst 4, 1) := by decide +kernel
theorem dX8_sendUnit_218 : decode cX8_sendUnit 218 = .ok (.aload_n 0, 1) := by decide +kernel
theorem dX8_sendUnit_219 : decode cX8_sendUnit 219 = .ok (.getfield 30, 3) := by decide +kernel
theorem dX8_sendUnit_222 : decode cX8_sendUnit 222 = .ok (.iload_n 3, 1) := by decide +kernel
theorem dX8_sendUnit_223 : decode cX8_sendUnit 223 = .ok (.iaload, 1) := by decide +kernel
theorem dX8_sendUnit_224 : decode cX8_sendUnit 224 = .ok (.iadd, 1) := by decide +kernel
theorem dX8_sendUnit_225 : decode cX8_sendUnit 225 = .ok (.istore 4, 2) := by decide +kernel
theorem dX8_sendUnit_227 : decode cX8_sendUnit 227 = .ok (.sipush 1000, 3) := by decide +kernel
theorem dX8_sendUnit_230 : decode cX8_sendUnit 230 = .ok (.istore 5, 2) := by decide +kernel
theorem dX8_sendUnit_232 : decode cX8_sendUnit 232 = .ok (.iconst 0, 1) := by decide +kernel
theorem dX8_sendUnit_233 : decode cX8_sendUnit 233 = .ok (.istore 6, 2) := by decide +kernel
theorem dX8_sendUnit_235 : decode cX8_sendUnit 235 = .ok (.iload 5, 2) := by decide +kernel
theorem dX8_sendUnit_237 : decode cX8_sendUnit 237 = .ok (.ifCond .le 71, 3) := by decide +kernel
theorem dX8_sendUnit_240 : decode cX8_sendUnit 240 = .ok (.aload_n 0, 1) := by decide +kernel
theorem dX8_sendUnit_241 : decode cX8_sendUnit 241 = .ok (.getfield 36, 3) := by decide +kernel
theorem dX8_sendUnit_244 : decode cX8_sendUnit 244 = .ok (.iload_n 3, 1) := by decide +kernel
theorem dX8_sendUnit_245 : decode cX8_sendUnit 245 = .ok (.iaload, 1) := by decide +kernel
theorem dX8_sendUnit_246 : decode cX8_sendUnit 246 = .ok (.iload 5, 2) := by decide +kernel
theorem dX8_sendUnit_248 : decode cX8_sendUnit 248 = .ok (.idiv, 1) := by decide +kernel
theorem dX8_sendUnit_249 : decode cX8_sendUnit 249 = .ok (.bipush 10, 2) := by decide +kernel
theorem dX8_sendUnit_251 : decode cX8_sendUnit 251 = .ok (.irem, 1) := by decide +kernel
theorem dX8_sendUnit_252 : decode cX8_sendUnit 252 = .ok (.istore 7, 2) := by decide +kernel
theorem dX8_sendUnit_254 : decode cX8_sendUnit 254 = .ok (.iload 6, 2) := by decide +kernel
theorem dX8_sendUnit_256 : decode cX8_sendUnit 256 = .ok (.ifCond .ne 14, 3) := by decide +kernel
theorem dX8_sendUnit_259 : decode cX8_sendUnit 259 = .ok (.iload 7, 2) := by decide +kernel
theorem dX8_sendUnit_261 : decode cX8_sendUnit 261 = .ok (.ifCond .gt 9, 3) := by decide +kernel
theorem dX8_sendUnit_264 : decode cX8_sendUnit 264 = .ok (.iload 5, 2) := by decide +kernel
theorem dX8_sendUnit_266 : decode cX8_sendUnit 266 = .ok (.iconst 1, 1) := by decide +kernel
theorem dX8_sendUnit_267 : decode cX8_sendUnit 267 = .ok (.if_icmp .ne 7, 3) := by decide +kernel
theorem dX8_sendUnit_270 : decode cX8_sendUnit 270 = .ok (.iconst 1, 1) := by decide +kernel
theorem dX8_sendUnit_271 : decode cX8_sendUnit 271 = .ok (.goto 4, 3) := by decide +kernel
theorem dX8_sendUnit_274 : decode cX8_sendUnit 274 = .ok (.iconst 0, 1) := by decide +kernel
theorem dX8_sendUnit_275 : decode cX8_sendUnit 275 = .ok (.istore 6, 2) := by decide +kernel
theorem dX8_sendUnit_277 : decode cX8_sendUnit 277 = .ok (.iload 6, 2) := by decide +kernel
theorem dX8_sendUnit_279 : decode cX8_sendUnit 279 = .ok (.ifCond .eq 19, 3) := by decide +kernel
theorem dX8_sendUnit_282 : decode cX8_sendUnit 282 = .ok (.aload_n 0, 1) := by decide +kernel
theorem dX8_sendUnit_283 : decode cX8_sendUnit 283 = .ok (.getfield 67, 3) := by decide +kernel
theorem dX8_sendUnit_286 : decode cX8_sendUnit 286 = .ok (.iload 4, 2) := by decide +kernel
theorem dX8_sendUnit_288 : decode cX8_sendUnit 288 = .ok (.bipush 48, 2) := by decide +kernel
theorem dX8_sendUnit_290 : decode cX8_sendUnit 290 = .ok (.iload 7, 2) := by decide +kernel
theorem dX8_sendUnit_292 : decode cX8_sendUnit 292 = .ok (.iadd, 1) := by decide +kernel
theorem dX8_sendUnit_293 : decode cX8_sendUnit 293 = .ok (.i2b, 1) := by decide +kernel
theorem dX8_sendUnit_294 : decode cX8_sendUnit 294 = .ok (.bastore, 1) := by decide +kernel
theorem dX8_sendUnit_295 : decode cX8_sendUnit 295 = .ok (.iinc 4 1, 3) := by decide +kernel
theorem dX8_sendUnit_298 : decode cX8_sendUnit 298 = .ok (.iload 5, 2) := by decide +kernel
theorem dX8_sendUnit_300 : decode cX8_sendUnit 300 = .ok (.bipush 10, 2) := by decide +kernel
theorem dX8_sendUnit_302 : decode cX8_sendUnit 302 = .ok (.idiv, 1) := by decide +kernel
theorem dX8_sendUnit_303 : decode cX8_sendUnit 303 = .ok (.istore 5, 2) := by decide +kernel
theorem dX8_sendUnit_305 : decode cX8_sendUnit 305 = .ok (.goto (-70), 3) := by decide +kernel
theorem dX8_sendUnit_308 : decode cX8_sendUnit 308 = .ok (.aload_n 0, 1) := by decide +kernel
theorem dX8_sendUnit_309 : decode cX8_sendUnit 309 = .ok (.iconst 3, 1) := by decide +kernel
theorem dX8_sendUnit_310 : decode cX8_sendUnit 310 = .ok (.iload_n 2, 1) := by decide +kernel
theorem dX8_sendUnit_311 : decode cX8_sendUnit 311 = .ok (.invokevirtual 140, 3) := by decide +kernel
theorem dX8_sendUnit_314 : decode cX8_sendUnit 314 = .ok (.istore 4, 2) := by decide +kernel
theorem dX8_sendUnit_316 : decode cX8_sendUnit 316 = .ok (.aload_n 0, 1) := by decide +kernel
theorem dX8_sendUnit_317 : decode cX8_sendUnit 317 = .ok (.iconst 3, 1) := by decide +kernel
theorem dX8_sendUnit_318 : decode cX8_sendUnit 318 = .ok (.iload_n 2, 1) := by decide +kernel
theorem dX8_sendUnit_319 : decode cX8_sendUnit 319 = .ok (.iadd, 1) := by decide +kernel
theorem dX8_sendUnit_320 : decode cX8_sendUnit 320 = .ok (.putfield 70, 3) := by decide +kernel
theorem dX8_sendUnit_323 : decode cX8_sendUnit 323 = .ok (.aload_n 0, 1) := by decide +kernel
theorem dX8_sendUnit_324 : decode cX8_sendUnit 324 = .ok (.getfield 64, 3) := by decide +kernel
theorem dX8_sendUnit_327 : decode cX8_sendUnit 327 = .ok (.ifCond .le 28, 3) := by decide +kernel
theorem dX8_sendUnit_330 : decode cX8_sendUnit 330 = .ok (.aload_n 0, 1) := by decide +kernel
theorem dX8_sendUnit_331 : decode cX8_sendUnit 331 = .ok (.getfield 67, 3) := by decide +kernel
theorem dX8_sendUnit_334 : decode cX8_sendUnit 334 = .ok (.aload_n 0, 1) := by decide +kernel
theorem dX8_sendUnit_335 : decode cX8_sendUnit 335 = .ok (.getfield 70, 3) := by decide +kernel
theorem dX8_sendUnit_338 : decode cX8_sendUnit 338 = .ok (.iload 4, 2) := by decide +kernel
theorem dX8_sendUnit_340 : decode cX8_sendUnit 340 = .ok (.bipush 8, 2) := by decide +kernel
theorem dX8_sendUnit_342 : decode cX8_sendUnit 342 = .ok (.ishr, 1) := by decide +kernel
theorem dX8_sendUnit_343 : decode cX8_sendUnit 343 = .ok (.i2b, 1) := by decide +kernel
theorem dX8_sendUnit_344 : decode cX8_sendUnit 344 = .ok (.bastore, 1) := by decide +kernel
theorem dX8_sendUnit_345 : decode cX8_sendUnit 345 = .ok (.aload_n 0, 1) := by decide +kernel
theorem dX8_sendUnit_346 : decode cX8_sendUnit 346 = .ok (.dup, 1) := by decide +kernel
theorem dX8_sendUnit_347 : decode cX8_sendUnit 347 = .ok (.getfield 70, 3) := by decide +kernel
theorem dX8_sendUnit_350 : decode cX8_sendUnit 350 = .ok (.iconst 1, 1) := by decide +kernel
theorem dX8_sendUnit_351 : decode cX8_sendUnit 351 = .ok (.iadd, 1) := by decide +kernel
theorem dX8_sendUnit_352 : decode cX8_sendUnit 352 = .ok (.putfield 70, 3) := by decide +kernel
theorem dX8_sendUnit_355 : decode cX8_sendUnit 355 = .ok (.aload_n 0, 1) := by decide +kernel
theorem dX8_sendUnit_356 : decode cX8_sendUnit 356 = .ok (.getfield 67, 3) := by decide +kernel
theorem dX8_sendUnit_359 : decode cX8_sendUnit 359 = .ok (.aload_n 0, 1) := by decide +kernel
theorem dX8_sendUnit_360 : decode cX8_sendUnit 360 = .ok (.getfield 70, 3) := by decide +kernel
theorem dX8_sendUnit_363 : decode cX8_sendUnit 363 = .ok (.iload 4, 2) := by decide +kernel
theorem dX8_sendUnit_365 : decode cX8_sendUnit 365 = .ok (.i2b, 1) := by decide +kernel
theorem dX8_sendUnit_366 : decode cX8_sendUnit 366 = .ok (.bastore, 1) := by decide +kernel
theorem dX8_sendUnit_367 : decode cX8_sendUnit 367 = .ok (.aload_n 0, 1) := by decide +kernel
theorem dX8_sendUnit_368 : decode cX8_sendUnit 368 = .ok (.dup, 1) := by decide +kernel
theorem dX8_sendUnit_369 : decode cX8_sendUnit 369 = .ok (.getfield 70, 3) := by decide +kernel
theorem dX8_sendUnit_372 : decode cX8_sendUnit 372 = .ok (.iconst 1, 1) := by decide +kernel
theorem dX8_sendUnit_373 : decode cX8_sendUnit 373 = .ok (.iadd, 1) := by decide +kernel
theorem dX8_sendUnit_374 : decode cX8_sendUnit 374 = .ok (.putfield 70, 3) := by decide +kernel
theorem dX8_sendUnit_377 : decode cX8_sendUnit 377 = .ok (.return_, 1) := by decide +kernel
theorem dX8_ask_0 : decode cX8_ask 0 = .ok (.aload_n 0, 1) := by decide +kernel
theorem dX8_ask_1 : decode cX8_ask 1 = .ok (.getfield 64, 3) := by decide +kernel
theorem dX8_ask_4 : decode cX8_ask 4 = .ok (.ifCond .ne 8, 3) := by decide +kernel
theorem dX8_ask_7 : decode cX8_ask 7 = .ok (.bipush 21, 2) := by decide +kernel
theorem dX8_ask_9 : decode cX8_ask 9 = .ok (.goto 5, 3) := by decide +kernel
theorem dX8_ask_12 : decode cX8_ask 12 = .ok (.bipush 67, 2) := by decide +kernel
theorem dX8_ask_14 : decode cX8_ask 14 = .ok (.ireturn, 1) := by decide +kernel
set_option maxRecDepth 20000 in
theorem ggX8_begin_X8_layOut : GoodIn wsX8_begin wsX8_layOut := goodIn_r _ [24, 25, 3, 2, 26, 27, 28, 29, 23, 30, 31, 32, 33, 34, 35, 46, 47, 48, 49, 50, 51, 52, 53, 54, 55, 56, 57, 58, 59, 60, 61, 62, 63, 64, 65, 66, 67, 68, 69, 70, 71, 72, 73, 74, 75, 76, 77, 78, 79, 80, 81, 82, 83, 84] (by decide +kernel) (by decide +kernel)
set_option maxRecDepth 20000 in
theorem gX8_begin_X8_layOut : GoodIn wsX8_begin (wsV RX8 144 RX8 yX8_layOut wsX8_layOut) := goodIn_app (goodIn_of _ (by decide +kernel)) ggX8_begin_X8_layOut
set_option maxRecDepth 20000 in
theorem ggX8_begin_X8_ask : GoodIn wsX8_begin wsX8_ask := goodIn_r _ [39, 3, 46, 47, 48, 49, 50, 51, 52, 53, 54, 55, 56, 57, 58, 59, 60, 61, 62, 63, 64, 65, 66, 67, 68, 69, 70, 71, 72, 73, 74, 75, 76, 77, 78, 79, 80, 81, 82, 83, 84] (by decide +kernel) (by decide +kernel)
set_option maxRecDepth 20000 in
theorem gX8_begin_X8_ask : GoodIn wsX8_begin (wsV RX8 147 RX8 yX8_ask wsX8_ask) := goodIn_app (goodIn_of _ (by decide +kernel)) ggX8_begin_X8_ask
set_option maxRecDepth 20000 in
theorem ggX8_begin_X8_byteOn : GoodIn wsX8_begin wsX8_byteOn := goodIn_r _ [43, 44, 45, 46, 47, 48, 49, 50, 51, 52, 53, 54, 55, 56, 57, 58, 59, 60, 61, 62, 63, 64, 65, 66, 67, 68, 69, 70, 71, 72, 73, 74, 75, 76, 77, 78, 79, 80, 81, 82, 83, 84] (by decide +kernel) (by decide +kernel)
set_option maxRecDepth 20000 in
theorem gX8_begin_X8_byteOn : GoodIn wsX8_begin (wsV RX8 136 RX8 yX8_byteOn wsX8_byteOn) := goodIn_app (goodIn_of _ (by decide +kernel)) ggX8_begin_X8_byteOn
theorem dX8_begin_0 : decode cX8_begin 0 = .ok (.aload_n 0, 1) := by decide +kernel
theorem dX8_begin_1 : decode cX8_begin 1 = .ok (.iconst 0, 1) := by decide +kernel
theorem dX8_begin_2 : decode cX8_begin 2 = .ok (.putfield 7, 3) := by decide +kernel
theorem dX8_begin_5 : decode cX8_begin 5 = .ok (.aload_n 0, 1) := by decide +kernel
theorem dX8_begin_6 : decode cX8_begin 6 = .ok (.getfield 24, 3) := by decide +kernel
theorem dX8_begin_9 : decode cX8_begin 9 = .ok (.ifCond .eq 12, 3) := by decide +kernel
theorem dX8_begin_12 : decode cX8_begin 12 = .ok (.iload_n 1, 1) := by decide +kernel
theorem dX8_begin_13 : decode cX8_begin 13 = .ok (.ifCond .lt 8, 3) := by decide +kernel
theorem dX8_begin_16 : decode cX8_begin 16 = .ok (.iload_n 1, 1) := by decide +kernel
theorem dX8_begin_17 : decode cX8_begin 17 = .ok (.iconst 3, 1) := by decide +kernel
theorem dX8_begin_18 : decode cX8_begin 18 = .ok (.if_icmp .le 5, 3) := by decide +kernel
theorem dX8_begin_21 : decode cX8_begin 21 = .ok (.iconst 0, 1) := by decide +kernel
theorem dX8_begin_22 : decode cX8_begin 22 = .ok (.ireturn, 1) := by decide +kernel
theorem dX8_begin_23 : decode cX8_begin 23 = .ok (.aload_n 0, 1) := by decide +kernel
theorem dX8_begin_24 : decode cX8_begin 24 = .ok (.iload_n 1, 1) := by decide +kernel
theorem dX8_begin_25 : decode cX8_begin 25 = .ok (.putfield 64, 3) := by decide +kernel
theorem dX8_begin_28 : decode cX8_begin 28 = .ok (.aload_n 0, 1) := by decide +kernel
theorem dX8_begin_29 : decode cX8_begin 29 = .ok (.iconst 1, 1) := by decide +kernel
theorem dX8_begin_30 : decode cX8_begin 30 = .ok (.putfield 57, 3) := by decide +kernel
theorem dX8_begin_33 : decode cX8_begin 33 = .ok (.aload_n 0, 1) := by decide +kernel
theorem dX8_begin_34 : decode cX8_begin 34 = .ok (.iconst 1, 1) := by decide +kernel
theorem dX8_begin_35 : decode cX8_begin 35 = .ok (.putfield 61, 3) := by decide +kernel
theorem dX8_begin_38 : decode cX8_begin 38 = .ok (.aload_n 0, 1) := by decide +kernel
theorem dX8_begin_39 : decode cX8_begin 39 = .ok (.invokevirtual 144, 3) := by decide +kernel
theorem dX8_begin_42 : decode cX8_begin 42 = .ok (.aload_n 0, 1) := by decide +kernel
theorem dX8_begin_43 : decode cX8_begin 43 = .ok (.iconst 0, 1) := by decide +kernel
theorem dX8_begin_44 : decode cX8_begin 44 = .ok (.putfield 85, 3) := by decide +kernel
theorem dX8_begin_47 : decode cX8_begin 47 = .ok (.aload_n 0, 1) := by decide +kernel
theorem dX8_begin_48 : decode cX8_begin 48 = .ok (.iconst 0, 1) := by decide +kernel
theorem dX8_begin_49 : decode cX8_begin 49 = .ok (.putfield 88, 3) := by decide +kernel
theorem dX8_begin_52 : decode cX8_begin 52 = .ok (.aload_n 0, 1) := by decide +kernel
theorem dX8_begin_53 : decode cX8_begin 53 = .ok (.iconst (-1), 1) := by decide +kernel
theorem dX8_begin_54 : decode cX8_begin 54 = .ok (.putfield 91, 3) := by decide +kernel
theorem dX8_begin_57 : decode cX8_begin 57 = .ok (.aload_n 0, 1) := by decide +kernel
theorem dX8_begin_58 : decode cX8_begin 58 = .ok (.iconst 0, 1) := by decide +kernel
theorem dX8_begin_59 : decode cX8_begin 59 = .ok (.putfield 94, 3) := by decide +kernel
theorem dX8_begin_62 : decode cX8_begin 62 = .ok (.aload_n 0, 1) := by decide +kernel
theorem dX8_begin_63 : decode cX8_begin 63 = .ok (.iconst 0, 1) := by decide +kernel
theorem dX8_begin_64 : decode cX8_begin 64 = .ok (.putfield 97, 3) := by decide +kernel
theorem dX8_begin_67 : decode cX8_begin 67 = .ok (.aload_n 0, 1) := by decide +kernel
theorem dX8_begin_68 : decode cX8_begin 68 = .ok (.aload_n 0, 1) := by decide +kernel
theorem dX8_begin_69 : decode cX8_begin 69 = .ok (.getfield 64, 3) := by decide +kernel
theorem dX8_begin_72 : decode cX8_begin 72 = .ok (.iconst 3, 1) := by decide +kernel
theorem dX8_begin_73 : decode cX8_begin 73 = .ok (.if_icmp .ne 7, 3) := by decide +kernel
theorem dX8_begin_76 : decode cX8_begin 76 = .ok (.iconst 1, 1) := by decide +kernel
theorem dX8_begin_77 : decode cX8_begin 77 = .ok (.goto 4, 3) := by decide +kernel
theorem dX8_begin_80 : decode cX8_begin 80 = .ok (.iconst 0, 1) := by decide +kernel
theorem dX8_begin_81 : decode cX8_begin 81 = .ok (.putfield 103, 3) := by decide +kernel
theorem dX8_begin_84 : decode cX8_begin 84 = .ok (.aload_n 0, 1) := by decide +kernel
theorem dX8_begin_85 : decode cX8_begin 85 = .ok (.aload_n 0, 1) := by decide +kernel
theorem dX8_begin_86 : decode cX8_begin 86 = .ok (.getfield 64, 3) := by decide +kernel
theorem dX8_begin_89 : decode cX8_begin 89 = .ok (.iconst 3, 1) := by decide +kernel
theorem dX8_begin_90 : decode cX8_begin 90 = .ok (.if_icmp .ne 7, 3) := by decide +kernel
theorem dX8_begin_93 : decode cX8_begin 93 = .ok (.iconst 0, 1) := by decide +kernel
theorem dX8_begin_94 : decode cX8_begin 94 = .ok (.goto 4, 3) := by decide +kernel
theorem dX8_begin_97 : decode cX8_begin 97 = .ok (.iconst 1, 1) := by decide +kernel
theorem dX8_begin_98 : decode cX8_begin 98 = .ok (.putfield 100, 3) := by decide +kernel
theorem dX8_begin_101 : decode cX8_begin 101 = .ok (.aload_n 0, 1) := by decide +kernel
theorem dX8_begin_102 : decode cX8_begin 102 = .ok (.iconst 0, 1) := by decide +kernel
theorem dX8_begin_103 : decode cX8_begin 103 = .ok (.putfield 106, 3) := by decide +kernel
theorem dX8_begin_106 : decode cX8_begin 106 = .ok (.aload_n 0, 1) := by decide +kernel
theorem dX8_begin_107 : decode cX8_begin 107 = .ok (.iconst 0, 1) := by decide +kernel
theorem dX8_begin_108 : decode cX8_begin 108 = .ok (.putfield 109, 3) := by decide +kernel
theorem dX8_begin_111 : decode cX8_begin 111 = .ok (.aload_n 0, 1) := by decide +kernel
theorem dX8_begin_112 : decode cX8_begin 112 = .ok (.aload_n 0, 1) := by decide +kernel
theorem dX8_begin_113 : decode cX8_begin 113 = .ok (.getfield 64, 3) := by decide +kernel
theorem dX8_begin_116 : decode cX8_begin 116 = .ok (.iconst 3, 1) := by decide +kernel
theorem dX8_begin_117 : decode cX8_begin 117 = .ok (.if_icmp .ne 7, 3) := by decide +kernel
theorem dX8_begin_120 : decode cX8_begin 120 = .ok (.iconst 0, 1) := by decide +kernel
theorem dX8_begin_121 : decode cX8_begin 121 = .ok (.goto 4, 3) := by decide +kernel
theorem dX8_begin_124 : decode cX8_begin 124 = .ok (.iconst 1, 1) := by decide +kernel
theorem dX8_begin_125 : decode cX8_begin 125 = .ok (.putfield 112, 3) := by decide +kernel
theorem dX8_begin_128 : decode cX8_begin 128 = .ok (.aload_n 0, 1) := by decide +kernel
theorem dX8_begin_129 : decode cX8_begin 129 = .ok (.getfield 118, 3) := by decide +kernel
theorem dX8_begin_132 : decode cX8_begin 132 = .ok (.iconst 0, 1) := by decide +kernel
theorem dX8_begin_133 : decode cX8_begin 133 = .ok (.iconst 0, 1) := by decide +kernel
theorem dX8_begin_134 : decode cX8_begin 134 = .ok (.iastore, 1) := by decide +kernel
theorem dX8_begin_135 : decode cX8_begin 135 = .ok (.aload_n 0, 1) := by decide +kernel
theorem dX8_begin_136 : decode cX8_begin 136 = .ok (.getfield 124, 3) := by decide +kernel
theorem dX8_begin_139 : decode cX8_begin 139 = .ok (.iconst 0, 1) := by decide +kernel
theorem dX8_begin_140 : decode cX8_begin 140 = .ok (.iconst 0, 1) := by decide +kernel
theorem dX8_begin_141 : decode cX8_begin 141 = .ok (.iastore, 1) := by decide +kernel
theorem dX8_begin_142 : decode cX8_begin 142 = .ok (.aload_n 0, 1) := by decide +kernel
theorem dX8_begin_143 : decode cX8_begin 143 = .ok (.iconst 0, 1) := by decide +kernel
theorem dX8_begin_144 : decode cX8_begin 144 = .ok (.putfield 127, 3) := by decide +kernel
theorem dX8_begin_147 : decode cX8_begin 147 = .ok (.aload_n 0, 1) := by decide +kernel
theorem dX8_begin_148 : decode cX8_begin 148 = .ok (.aload_n 0, 1) := by decide +kernel
theorem dX8_begin_149 : decode cX8_begin 149 = .ok (.invokevirtual 147, 3) := by decide +kernel
theorem dX8_begin_152 : decode cX8_begin 152 = .ok (.invokevirtual 136, 3) := by decide +kernel
theorem dX8_begin_155 : decode cX8_begin 155 = .ok (.aload_n 0, 1) := by decide +kernel
theorem dX8_begin_156 : decode cX8_begin 156 = .ok (.iconst 1, 1) := by decide +kernel
theorem dX8_begin_157 : decode cX8_begin 157 = .ok (.putfield 73, 3) := by decide +kernel
theorem dX8_begin_160 : decode cX8_begin 160 = .ok (.iconst 1, 1) := by decide +kernel
theorem dX8_begin_161 : decode cX8_begin 161 = .ok (.ireturn, 1) := by decide +kernel
theorem dX8_spoil_0 : decode cX8_spoil 0 = .ok (.aload_n 0, 1) := by decide +kernel
theorem dX8_spoil_1 : decode cX8_spoil 1 = .ok (.iconst 0, 1) := by decide +kernel
theorem dX8_spoil_2 : decode cX8_spoil 2 = .ok (.putfield 7, 3) := by decide +kernel
theorem dX8_spoil_5 : decode cX8_spoil 5 = .ok (.aload_n 0, 1) := by decide +kernel
theorem dX8_spoil_6 : decode cX8_spoil 6 = .ok (.iconst 1, 1) := by decide +kernel
theorem dX8_spoil_7 : decode cX8_spoil 7 = .ok (.putfield 76, 3) := by decide +kernel
theorem dX8_spoil_10 : decode cX8_spoil 10 = .ok (.aload_n 0, 1) := by decide +kernel
theorem dX8_spoil_11 : decode cX8_spoil 11 = .ok (.iload_n 1, 1) := by decide +kernel
theorem dX8_spoil_12 : decode cX8_spoil 12 = .ok (.putfield 79, 3) := by decide +kernel
theorem dX8_spoil_15 : decode cX8_spoil 15 = .ok (.aload_n 0, 1) := by decide +kernel
theorem dX8_spoil_16 : decode cX8_spoil 16 = .ok (.iload_n 2, 1) := by decide +kernel
theorem dX8_spoil_17 : decode cX8_spoil 17 = .ok (.sipush 255, 3) := by decide +kernel
theorem dX8_spoil_20 : decode cX8_spoil 20 = .ok (.iand, 1) := by decide +kernel
theorem dX8_spoil_21 : decode cX8_spoil 21 = .ok (.putfield 82, 3) := by decide +kernel
theorem dX8_spoil_24 : decode cX8_spoil 24 = .ok (.return_, 1) := by decide +kernel
set_option maxRecDepth 20000 in
theorem ggX8_senderMiss_X8_byteOn : GoodIn wsX8_senderMiss wsX8_byteOn := goodIn_r _ [7, 8, 9, 31, 32, 33, 34, 35, 36, 37, 38, 39, 40, 41, 42, 43, 44, 45, 46, 47, 48, 49, 50, 51, 52, 53, 54, 55, 56, 57, 58, 59, 60, 61, 62, 63, 64, 65, 66, 67, 68, 69] (by decide +kernel) (by decide +kernel)
set_option maxRecDepth 20000 in
theorem gX8_senderMiss_X8_byteOn : GoodIn wsX8_senderMiss (wsV RX8 136 RX8 yX8_byteOn wsX8_byteOn) := goodIn_app (goodIn_of _ (by decide +kernel)) ggX8_senderMiss_X8_byteOn
set_option maxRecDepth 20000 in
theorem ggX8_senderMiss_X8_sendUnit : GoodIn wsX8_senderMiss wsX8_sendUnit := goodIn_r _ [13, 14, 15, 16, 17, 8, 18, 19, 20, 21, 22, 23, 9, 24, 3, 4, 5, 6, 7, 25, 26, 27, 28, 29, 30, 31, 32, 33, 34, 35, 36, 37, 38, 39, 40, 41, 42, 43, 44, 45, 46, 47, 48, 49, 50, 51, 52, 53, 54, 55, 56, 57, 58, 59, 60, 61, 62, 63, 64, 65, 66, 67, 68, 69] (by decide +kernel) (by decide +kernel)
set_option maxRecDepth 20000 in
theorem gX8_senderMiss_X8_sendUnit : GoodIn wsX8_senderMiss (wsV RX8 151 RX8 yX8_sendUnit wsX8_sendUnit) := goodIn_app (goodIn_of _ (by decide +kernel)) ggX8_senderMiss_X8_sendUnit
theorem dX8_senderMiss_0 : decode cX8_senderMiss 0 = .ok (.aload_n 0, 1) := by decide +kernel
theorem dX8_senderMiss_1 : decode cX8_senderMiss 1 = .ok (.dup, 1) := by decide +kernel
theorem dX8_senderMiss_2 : decode cX8_senderMiss 2 = .ok (.getfield 88, 3) := by decide +kernel
theorem dX8_senderMiss_5 : decode cX8_senderMiss 5 = .ok (.iconst 1, 1) := by decide +kernel
theorem dX8_senderMiss_6 : decode cX8_senderMiss 6 = .ok (.iadd, 1) := by decide +kernel
theorem dX8_senderMiss_7 : decode cX8_senderMiss 7 = .ok (.putfield 88, 3) := by decide +kernel
theorem dX8_senderMiss_10 : decode cX8_senderMiss 10 = .ok (.aload_n 0, 1) := by decide +kernel
theorem dX8_senderMiss_11 : decode cX8_senderMiss 11 = .ok (.getfield 88, 3) := by decide +kernel
theorem dX8_senderMiss_14 : decode cX8_senderMiss 14 = .ok (.bipush 11, 2) := by decide +kernel
theorem dX8_senderMiss_16 : decode cX8_senderMiss 16 = .ok (.if_icmp .ne 17, 3) := by decide +kernel
theorem dX8_senderMiss_19 : decode cX8_senderMiss 19 = .ok (.aload_n 0, 1) := by decide +kernel
theorem dX8_senderMiss_20 : decode cX8_senderMiss 20 = .ok (.bipush 24, 2) := by decide +kernel
theorem dX8_senderMiss_22 : decode cX8_senderMiss 22 = .ok (.invokevirtual 136, 3) := by decide +kernel
theorem dX8_senderMiss_25 : decode cX8_senderMiss 25 = .ok (.aload_n 0, 1) := by decide +kernel
theorem dX8_senderMiss_26 : decode cX8_senderMiss 26 = .ok (.iconst 2, 1) := by decide +kernel
theorem dX8_senderMiss_27 : decode cX8_senderMiss 27 = .ok (.putfield 85, 3) := by decide +kernel
theorem dX8_senderMiss_30 : decode cX8_senderMiss 30 = .ok (.goto 19, 3) := by decide +kernel
theorem dX8_senderMiss_33 : decode cX8_senderMiss 33 = .ok (.iload_n 1, 1) := by decide +kernel
theorem dX8_senderMiss_34 : decode cX8_senderMiss 34 = .ok (.ifCond .eq 11, 3) := by decide +kernel
theorem dX8_senderMiss_37 : decode cX8_senderMiss 37 = .ok (.aload_n 0, 1) := by decide +kernel
theorem dX8_senderMiss_38 : decode cX8_senderMiss 38 = .ok (.iconst 0, 1) := by decide +kernel
theorem dX8_senderMiss_39 : decode cX8_senderMiss 39 = .ok (.invokevirtual 136, 3) := by decide +kernel
theorem dX8_senderMiss_42 : decode cX8_senderMiss 42 = .ok (.goto 7, 3) := by decide +kernel
theorem dX8_senderMiss_45 : decode cX8_senderMiss 45 = .ok (.aload_n 0, 1) := by decide +kernel
theorem dX8_senderMiss_46 : decode cX8_senderMiss 46 = .ok (.invokevirtual 151, 3) := by decide +kernel
theorem dX8_senderMiss_49 : decode cX8_senderMiss 49 = .ok (.return_, 1) := by decide +kernel
set_option maxRecDepth 20000 in
theorem ggX8_senderGets_X8_ask : GoodIn wsX8_senderGets wsX8_ask := goodIn_r _ [11, 12, 40, 41, 42, 43, 44, 45, 46, 47, 48, 49, 50, 51, 52, 53, 54, 55, 56, 57, 58, 59, 60, 61, 62, 63, 64, 65, 66, 67, 68, 69, 70, 71, 72, 73, 74, 75, 76, 77, 78] (by decide +kernel) (by decide +kernel)
set_option maxRecDepth 20000 in
theorem gX8_senderGets_X8_ask : GoodIn wsX8_senderGets (wsV RX8 147 RX8 yX8_ask wsX8_ask) := goodIn_app (goodIn_of _ (by decide +kernel)) ggX8_senderGets_X8_ask
set_option maxRecDepth 20000 in
theorem ggX8_senderGets_X8_senderMiss : GoodIn wsX8_senderGets wsX8_senderMiss := goodIn_r _ [16, 5, 3, 17, 18, 19, 10, 20, 2, 1, 21, 22, 23, 24, 25, 4, 26, 27, 28, 29, 30, 31, 32, 33, 12, 34, 35, 36, 37, 38, 39, 40, 41, 42, 43, 44, 45, 46, 47, 48, 49, 50, 51, 52, 53, 54, 55, 56, 57, 58, 59, 60, 61, 62, 63, 64, 65, 66, 67, 68, 69, 70, 71, 72, 73, 74, 75, 76, 77, 78] (by decide +kernel) (by decide +kernel)
set_option maxRecDepth 20000 in
theorem gX8_senderGets_X8_senderMiss : GoodIn wsX8_senderGets (wsV RX8 154 RX8 yX8_senderMiss wsX8_senderMiss) := goodIn_app (goodIn_of _ (by decide +kernel)) ggX8_senderGets_X8_senderMiss
set_option maxRecDepth 20000 in
theorem ggX8_senderGets_X8_sendUnit : GoodIn wsX8_senderGets wsX8_sendUnit := goodIn_r _ [24, 25, 4, 26, 27, 2, 28, 29, 30, 31, 32, 33, 1, 12, 17, 18, 19, 10, 20, 34, 35, 36, 37, 38, 39, 40, 41, 42, 43, 44, 45, 46, 47, 48, 49, 50, 51, 52, 53, 54, 55, 56, 57, 58, 59, 60, 61, 62, 63, 64, 65, 66, 67, 68, 69, 70, 71, 72, 73, 74, 75, 76, 77, 78] (by decide +kernel) (by decide +kernel)
set_option maxRecDepth 20000 in
theorem gX8_senderGets_X8_sendUnit : GoodIn wsX8_senderGets (wsV RX8 151 RX8 yX8_sendUnit wsX8_sendUnit) := goodIn_app (goodIn_of _ (by decide +kernel)) ggX8_senderGets_X8_sendUnit
theorem dX8_senderGets_0 : decode cX8_senderGets 0 = .ok (.iload_n 1, 1) := by decide +kernel
theorem dX8_senderGets_1 : decode cX8_senderGets 1 = .ok (.ifCond .ne 11, 3) := by decide +kernel
theorem dX8_senderGets_4 : decode cX8_senderGets 4 = .ok (.aload_n 0, 1) := by decide +kernel
theorem dX8_senderGets_5 : decode cX8_senderGets 5 = .ok (.getfield 70, 3) := by decide +kernel
theorem dX8_senderGets_8 : decode cX8_senderGets 8 = .ok (.iconst 1, 1) := by decide +kernel
theorem dX8_senderGets_9 : decode cX8_senderGets 9 = .ok (.if_icmp .eq 7, 3) := by decide +kernel
theorem dX8_senderGets_12 : decode cX8_senderGets 12 = .ok (.iconst (-1), 1) := by decide +kernel
theorem dX8_senderGets_13 : decode cX8_senderGets 13 = .ok (.goto 13, 3) := by decide +kernel
theorem dX8_senderGets_16 : decode cX8_senderGets 16 = .ok (.aload_n 0, 1) := by decide +kernel
theorem dX8_senderGets_17 : decode cX8_senderGets 17 = .ok (.getfield 67, 3) := by decide +kernel
theorem dX8_senderGets_20 : decode cX8_senderGets 20 = .ok (.iconst 0, 1) := by decide +kernel
theorem dX8_senderGets_21 : decode cX8_senderGets 21 = .ok (.baload, 1) := by decide +kernel
theorem dX8_senderGets_22 : decode cX8_senderGets 22 = .ok (.sipush 255, 3) := by decide +kernel
theorem dX8_senderGets_25 : decode cX8_senderGets 25 = .ok (.iand, 1) := by decide +kernel
theorem dX8_senderGets_26 : decode cX8_senderGets 26 = .ok (.istore_n 2, 1) := by decide +kernel
theorem dX8_senderGets_27 : decode cX8_senderGets 27 = .ok (.aload_n 0, 1) := by decide +kernel
theorem dX8_senderGets_28 : decode cX8_senderGets 28 = .ok (.iconst 0, 1) := by decide +kernel
theorem dX8_senderGets_29 : decode cX8_senderGets 29 = .ok (.putfield 70, 3) := by decide +kernel
theorem dX8_senderGets_32 : decode cX8_senderGets 32 = .ok (.aload_n 0, 1) := by decide +kernel
theorem dX8_senderGets_33 : decode cX8_senderGets 33 = .ok (.getfield 85, 3) := by decide +kernel
theorem dX8_senderGets_36 : decode cX8_senderGets 36 = .ok (.ifCond .eq 4, 3) := by decide +kernel
theorem dX8_senderGets_39 : decode cX8_senderGets 39 = .ok (.return_, 1) := by decide +kernel
theorem dX8_senderGets_40 : decode cX8_senderGets 40 = .ok (.iload_n 2, 1) := by decide +kernel
theorem dX8_senderGets_41 : decode cX8_senderGets 41 = .ok (.bipush 24, 2) := by decide +kernel
theorem dX8_senderGets_43 : decode cX8_senderGets 43 = .ok (.if_icmp .ne 9, 3) := by decide +kernel
theorem dX8_senderGets_46 : decode cX8_senderGets 46 = .ok (.aload_n 0, 1) := by decide +kernel
theorem dX8_senderGets_47 : decode cX8_senderGets 47 = .ok (.iconst 2, 1) := by decide +kernel
theorem dX8_senderGets_48 : decode cX8_senderGets 48 = .ok (.putfield 85, 3) := by decide +kernel
theorem dX8_senderGets_51 : decode cX8_senderGets 51 = .ok (.return_, 1) := by decide +kernel
theorem dX8_senderGets_52 : decode cX8_senderGets 52 = .ok (.aload_n 0, 1) := by decide +kernel
theorem dX8_senderGets_53 : decode cX8_senderGets 53 = .ok (.getfield 91, 3) := by decide +kernel
theorem dX8_senderGets_56 : decode cX8_senderGets 56 = .ok (.ifCond .ge 7, 3) := by decide +kernel
theorem dX8_senderGets_59 : decode cX8_senderGets 59 = .ok (.iconst 1, 1) := by decide +kernel
theorem dX8_senderGets_60 : decode cX8_senderGets 60 = .ok (.goto 4, 3) := by decide +kernel
theorem dX8_senderGets_63 : decode cX8_senderGets 63 = .ok (.iconst 0, 1) := by decide +kernel
theorem dX8_senderGets_64 : decode cX8_senderGets 64 = .ok (.istore_n 3, 1) := by decide +kernel
theorem dX8_senderGets_65 : decode cX8_senderGets 65 = .ok (.iload_n 2, 1) := by decide +kernel
theorem dX8_senderGets_66 : decode cX8_senderGets 66 = .ok (.iload_n 3, 1) := by decide +kernel
theorem dX8_senderGets_67 : decode cX8_senderGets 67 = .ok (.ifCond .eq 10, 3) := by decide +kernel
theorem dX8_senderGets_70 : decode cX8_senderGets 70 = .ok (.aload_n 0, 1) := by decide +kernel
theorem dX8_senderGets_71 : decode cX8_senderGets 71 = .ok (.invokevirtual 147, 3) := by decide +kernel
theorem dX8_senderGets_74 : decode cX8_senderGets 74 = .ok (.goto 5, 3) := by decide +kernel
theorem dX8_senderGets_77 : decode cX8_senderGets 77 = .ok (.bipush 6, 2) := by decide +kernel
theorem dX8_senderGets_79 : decode cX8_senderGets 79 = .ok (.if_icmp .eq 9, 3) := by decide +kernel
theorem dX8_senderGets_82 : decode cX8_senderGets 82 = .ok (.aload_n 0, 1) := by decide +kernel
theorem dX8_senderGets_83 : decode cX8_senderGets 83 = .ok (.iload_n 3, 1) := by decide +kernel
theorem dX8_senderGets_84 : decode cX8_senderGets 84 = .ok (.invokevirtual 154, 3) := by decide +kernel
theorem dX8_senderGets_87 : decode cX8_senderGets 87 = .ok (.return_, 1) := by decide +kernel
theorem dX8_senderGets_88 : decode cX8_senderGets 88 = .ok (.iload_n 3, 1) := by decide +kernel
theorem dX8_senderGets_89 : decode cX8_senderGets 89 = .ok (.ifCond .ne 8, 3) := by decide +kernel
theorem dX8_senderGets_92 : decode cX8_senderGets 92 = .ok (.aload_n 0, 1) := by decide +kernel
theorem dX8_senderGets_93 : decode cX8_senderGets 93 = .ok (.iconst 0, 1) := by decide +kernel
theorem dX8_senderGets_94 : decode cX8_senderGets 94 = .ok (.putfield 88, 3) := by decide +kernel
theorem dX8_senderGets_97 : decode cX8_senderGets 97 = .ok (.aload_n 0, 1) := by decide +kernel
theorem dX8_senderGets_98 : decode cX8_senderGets 98 = .ok (.dup, 1) := by decide +kernel
theorem dX8_senderGets_99 : decode cX8_senderGets 99 = .ok (.getfield 91, 3) := by decide +kernel
theorem dX8_senderGets_102 : decode cX8_senderGets 102 = .ok (.iconst 1, 1) := by decide +kernel
theorem dX8_senderGets_103 : decode cX8_senderGets 103 = .ok (.iadd, 1) := by decide +kernel
theorem dX8_senderGets_104 : decode cX8_senderGets 104 = .ok (.putfield 91, 3) := by decide +kernel
theorem dX8_senderGets_107 : decode cX8_senderGets 107 = .ok (.aload_n 0, 1) := by decide +kernel
theorem dX8_senderGets_108 : decode cX8_senderGets 108 = .ok (.getfield 91, 3) := by decide +kernel
theorem dX8_senderGets_111 : decode cX8_senderGets 111 = .ok (.aload_n 0, 1) := by decide +kernel
theorem dX8_senderGets_112 : decode cX8_senderGets 112 = .ok (.getfield 39, 3) := by decide +kernel
theorem dX8_senderGets_115 : decode cX8_senderGets 115 = .ok (.if_icmp .ne 11, 3) := by decide +kernel
theorem dX8_senderGets_118 : decode cX8_senderGets 118 = .ok (.aload_n 0, 1) := by decide +kernel
theorem dX8_senderGets_119 : decode cX8_senderGets 119 = .ok (.iconst 1, 1) := by decide +kernel
theorem dX8_senderGets_120 : decode cX8_senderGets 120 = .ok (.putfield 85, 3) := by decide +kernel
theorem dX8_senderGets_123 : decode cX8_senderGets 123 = .ok (.goto 7, 3) := by decide +kernel
theorem dX8_senderGets_126 : decode cX8_senderGets 126 = .ok (.aload_n 0, 1) := by decide +kernel
theorem dX8_senderGets_127 : decode cX8_senderGets 127 = .ok (.invokevirtual 151, 3) := by decide +kernel
theorem dX8_senderGets_130 : decode cX8_senderGets 130 = .ok (.return_, 1) := by decide +kernel
set_option maxRecDepth 20000 in
theorem ggX8_receiverMiss_X8_byteOn : GoodIn wsX8_receiverMiss wsX8_byteOn := goodIn_r _ [8, 9, 10, 16, 17, 18, 19, 20, 21, 22, 23, 24, 25, 26, 27, 28, 29, 30, 31, 32, 33, 34, 35, 36, 37, 38, 39, 40, 41, 42, 43, 44, 45, 46, 47, 48, 49, 50, 51, 52, 53, 54] (by decide +kernel) (by decide +kernel)
set_option maxRecDepth 20000 in
theorem gX8_receiverMiss_X8_byteOn : GoodIn wsX8_receiverMiss (wsV RX8 136 RX8 yX8_byteOn wsX8_byteOn) := goodIn_app (goodIn_of _ (by decide +kernel)) ggX8_receiverMiss_X8_byteOn
set_option maxRecDepth 20000 in
theorem ggX8_receiverMiss_X8_ask : GoodIn wsX8_receiverMiss wsX8_ask := goodIn_r _ [14, 15, 16, 17, 18, 19, 20, 21, 22, 23, 24, 25, 26, 27, 28, 29, 30, 31, 32, 33, 34, 35, 36, 37, 38, 39, 40, 41, 42, 43, 44, 45, 46, 47, 48, 49, 50, 51, 52, 53, 54] (by decide +kernel) (by decide +kernel)
set_option maxRecDepth 20000 in
theorem gX8_receiverMiss_X8_ask : GoodIn wsX8_receiverMiss (wsV RX8 147 RX8 yX8_ask wsX8_ask) := goodIn_app (goodIn_of _ (by decide +kernel)) ggX8_receiverMiss_X8_ask
theorem dX8_receiverMiss_0 : decode cX8_receiverMiss 0 = .ok (.aload_n 0, 1) := by decide +kernel
theorem dX8_receiverMiss_1 : decode cX8_receiverMiss 1 = .ok (.dup, 1) := by decide +kernel
theorem dX8_receiverMiss_2 : decode cX8_receiverMiss 2 = .ok (.getfield 97, 3) := by decide +kernel
theorem dX8_receiverMiss_5 : decode cX8_receiverMiss 5 = .ok (.iconst 1, 1) := by decide +kernel
theorem dX8_receiverMiss_6 : decode cX8_receiverMiss 6 = .ok (.iadd, 1) := by decide +kernel
theorem dX8_receiverMiss_7 : decode cX8_receiverMiss 7 = .ok (.putfield 97, 3) := by decide +kernel
theorem dX8_receiverMiss_10 : decode cX8_receiverMiss 10 = .ok (.aload_n 0, 1) := by decide +kernel
theorem dX8_receiverMiss_11 : decode cX8_receiverMiss 11 = .ok (.getfield 97, 3) := by decide +kernel
theorem dX8_receiverMiss_14 : decode cX8_receiverMiss 14 = .ok (.bipush 11, 2) := by decide +kernel
theorem dX8_receiverMiss_16 : decode cX8_receiverMiss 16 = .ok (.if_icmp .ne 17, 3) := by decide +kernel
theorem dX8_receiverMiss_19 : decode cX8_receiverMiss 19 = .ok (.aload_n 0, 1) := by decide +kernel
theorem dX8_receiverMiss_20 : decode cX8_receiverMiss 20 = .ok (.bipush 24, 2) := by decide +kernel
theorem dX8_receiverMiss_22 : decode cX8_receiverMiss 22 = .ok (.invokevirtual 136, 3) := by decide +kernel
theorem dX8_receiverMiss_25 : decode cX8_receiverMiss 25 = .ok (.aload_n 0, 1) := by decide +kernel
theorem dX8_receiverMiss_26 : decode cX8_receiverMiss 26 = .ok (.iconst 2, 1) := by decide +kernel
theorem dX8_receiverMiss_27 : decode cX8_receiverMiss 27 = .ok (.putfield 94, 3) := by decide +kernel
theorem dX8_receiverMiss_30 : decode cX8_receiverMiss 30 = .ok (.goto 23, 3) := by decide +kernel
theorem dX8_receiverMiss_33 : decode cX8_receiverMiss 33 = .ok (.aload_n 0, 1) := by decide +kernel
theorem dX8_receiverMiss_34 : decode cX8_receiverMiss 34 = .ok (.aload_n 0, 1) := by decide +kernel
theorem dX8_receiverMiss_35 : decode cX8_receiverMiss 35 = .ok (.getfield 106, 3) := by decide +kernel
theorem dX8_receiverMiss_38 : decode cX8_receiverMiss 38 = .ok (.ifCond .eq 8, 3) := by decide +kernel
theorem dX8_receiverMiss_41 : decode cX8_receiverMiss 41 = .ok (.bipush 21, 2) := by decide +kernel
theorem dX8_receiverMiss_43 : decode cX8_receiverMiss 43 = .ok (.goto 7, 3) := by decide +kernel
theorem dX8_receiverMiss_46 : decode cX8_receiverMiss 46 = .ok (.aload_n 0, 1) := by decide +kernel
theorem dX8_receiverMiss_47 : decode cX8_receiverMiss 47 = .ok (.invokevirtual 147, 3) := by decide +kernel
theorem dX8_receiverMiss_50 : decode cX8_receiverMiss 50 = .ok (.invokevirtual 136, 3) := by decide +kernel
theorem dX8_receiverMiss_53 : decode cX8_receiverMiss 53 = .ok (.return_, 1) := by decide +kernel
set_option maxRecDepth 20000 in
theorem ggX8_isRight_X8_check : GoodIn wsX8_isRight wsX8_check := goodIn_r _ [8, 2, 1, 9, 10, 11, 12, 13, 14, 15, 16, 17, 18, 19, 20, 21, 22, 23, 24, 25, 26, 27, 28, 29, 30, 31, 32, 33, 34, 35, 36, 37, 38, 39, 40, 41, 42, 43, 44, 45, 46, 47, 48, 49] (by decide +kernel) (by decide +kernel)
set_option maxRecDepth 20000 in
theorem gX8_isRight_X8_check : GoodIn wsX8_isRight (wsV RX8 140 RX8 yX8_check wsX8_check) := goodIn_app (goodIn_of _ (by decide +kernel)) ggX8_isRight_X8_check
theorem dX8_isRight_0 : decode cX8_isRight 0 = .ok (.aload_n 0, 1) := by decide +kernel
theorem dX8_isRight_1 : decode cX8_isRight 1 = .ok (.getfield 64, 3) := by decide +kernel
theorem dX8_isRight_4 : decode cX8_isRight 4 = .ok (.ifCond .ne 7, 3) := by decide +kernel
theorem dX8_isRight_7 : decode cX8_isRight 7 = .ok (.iconst 1, 1) := by decide +kernel
theorem dX8_isRight_8 : decode cX8_isRight 8 = .ok (.goto 4, 3) := by decide +kernel
theorem dX8_isRight_11 : decode cX8_isRight 11 = .ok (.iconst 2, 1) := by decide +kernel
theorem dX8_isRight_12 : decode cX8_isRight 12 = .ok (.istore_n 1, 1) := by decide +kernel
theorem dX8_isRight_13 : decode cX8_isRight 13 = .ok (.aload_n 0, 1) := by decide +kernel
theorem dX8_isRight_14 : decode cX8_isRight 14 = .ok (.getfield 67, 3) := by decide +kernel
theorem dX8_isRight_17 : decode cX8_isRight 17 = .ok (.iconst 0, 1) := by decide +kernel
theorem dX8_isRight_18 : decode cX8_isRight 18 = .ok (.baload, 1) := by decide +kernel
theorem dX8_isRight_19 : decode cX8_isRight 19 = .ok (.iconst 1, 1) := by decide +kernel
theorem dX8_isRight_20 : decode cX8_isRight 20 = .ok (.if_icmp .ne 9, 3) := by decide +kernel
theorem dX8_isRight_23 : decode cX8_isRight 23 = .ok (.sipush 128, 3) := by decide +kernel
theorem dX8_isRight_26 : decode cX8_isRight 26 = .ok (.goto 20, 3) := by decide +kernel
theorem dX8_isRight_29 : decode cX8_isRight 29 = .ok (.aload_n 0, 1) := by decide +kernel
theorem dX8_isRight_30 : decode cX8_isRight 30 = .ok (.getfield 67, 3) := by decide +kernel
theorem dX8_isRight_33 : decode cX8_isRight 33 = .ok (.iconst 0, 1) := by decide +kernel
theorem dX8_isRight_34 : decode cX8_isRight 34 = .ok (.baload, 1) := by decide +kernel
theorem dX8_isRight_35 : decode cX8_isRight 35 = .ok (.iconst 2, 1) := by decide +kernel
theorem dX8_isRight_36 : decode cX8_isRight 36 = .ok (.if_icmp .ne 9, 3) := by decide +kernel
theorem dX8_isRight_39 : decode cX8_isRight 39 = .ok (.sipush 1024, 3) := by decide +kernel
theorem dX8_isRight_42 : decode cX8_isRight 42 = .ok (.goto 4, 3) := by decide +kernel
theorem dX8_isRight_45 : decode cX8_isRight 45 = .ok (.iconst (-1), 1) := by decide +kernel
theorem dX8_isRight_46 : decode cX8_isRight 46 = .ok (.istore_n 2, 1) := by decide +kernel
theorem dX8_isRight_47 : decode cX8_isRight 47 = .ok (.iload_n 2, 1) := by decide +kernel
theorem dX8_isRight_48 : decode cX8_isRight 48 = .ok (.ifCond .lt 42, 3) := by decide +kernel
theorem dX8_isRight_51 : decode cX8_isRight 51 = .ok (.aload_n 0, 1) := by decide +kernel
theorem dX8_isRight_52 : decode cX8_isRight 52 = .ok (.getfield 70, 3) := by decide +kernel
theorem dX8_isRight_55 : decode cX8_isRight 55 = .ok (.iconst 3, 1) := by decide +kernel
theorem dX8_isRight_56 : decode cX8_isRight 56 = .ok (.iload_n 2, 1) := by decide +kernel
theorem dX8_isRight_57 : decode cX8_isRight 57 = .ok (.iadd, 1) := by decide +kernel
theorem dX8_isRight_58 : decode cX8_isRight 58 = .ok (.iload_n 1, 1) := by decide +kernel
theorem dX8_isRight_59 : decode cX8_isRight 59 = .ok (.iadd, 1) := by decide +kernel
theorem dX8_isRight_60 : decode cX8_isRight 60 = .ok (.if_icmp .ne 30, 3) := by decide +kernel
theorem dX8_isRight_63 : decode cX8_isRight 63 = .ok (.aload_n 0, 1) := by decide +kernel
theorem dX8_isRight_64 : decode cX8_isRight 64 = .ok (.getfield 67, 3) := by decide +kernel
theorem dX8_isRight_67 : decode cX8_isRight 67 = .ok (.iconst 1, 1) := by decide +kernel
theorem dX8_isRight_68 : decode cX8_isRight 68 = .ok (.baload, 1) := by decide +kernel
theorem dX8_isRight_69 : decode cX8_isRight 69 = .ok (.sipush 255, 3) := by decide +kernel
theorem dX8_isRight_72 : decode cX8_isRight 72 = .ok (.iand, 1) := by decide +kernel
theorem dX8_isRight_73 : decode cX8_isRight 73 = .ok (.aload_n 0, 1) := by decide +kernel
theorem dX8_isRight_74 : decode cX8_isRight 74 = .ok (.getfield 67, 3) := by decide +kernel
theorem dX8_isRight_77 : decode cX8_isRight 77 = .ok (.iconst 2, 1) := by decide +kernel
theorem dX8_isRight_78 : decode cX8_isRight 78 = .ok (.baload, 1) := by decide +kernel
theorem dX8_isRight_79 : decode cX8_isRight 79 = .ok (.sipush 255, 3) := by decide +kernel
theorem dX8_isRight_82 : decode cX8_isRight 82 = .ok (.iand, 1) := by decide +kernel
theorem dX8_isRight_83 : decode cX8_isRight 83 = .ok (.iadd, 1) := by decide +kernel
theorem dX8_isRight_84 : decode cX8_isRight 84 = .ok (.sipush 255, 3) := by decide +kernel
theorem dX8_isRight_87 : decode cX8_isRight 87 = .ok (.if_icmp .eq 5, 3) := by decide +kernel
theorem dX8_isRight_90 : decode cX8_isRight 90 = .ok (.iconst 0, 1) := by decide +kernel
theorem dX8_isRight_91 : decode cX8_isRight 91 = .ok (.ireturn, 1) := by decide +kernel
theorem dX8_isRight_92 : decode cX8_isRight 92 = .ok (.aload_n 0, 1) := by decide +kernel
theorem dX8_isRight_93 : decode cX8_isRight 93 = .ok (.getfield 67, 3) := by decide +kernel
theorem dX8_isRight_96 : decode cX8_isRight 96 = .ok (.iconst 3, 1) := by decide +kernel
theorem dX8_isRight_97 : decode cX8_isRight 97 = .ok (.iload_n 2, 1) := by decide +kernel
theorem dX8_isRight_98 : decode cX8_isRight 98 = .ok (.iadd, 1) := by decide +kernel
theorem dX8_isRight_99 : decode cX8_isRight 99 = .ok (.baload, 1) := by decide +kernel
theorem dX8_isRight_100 : decode cX8_isRight 100 = .ok (.sipush 255, 3) := by decide +kernel
theorem dX8_isRight_103 : decode cX8_isRight 103 = .ok (.iand, 1) := by decide +kernel
theorem dX8_isRight_104 : decode cX8_isRight 104 = .ok (.istore_n 3, 1) := by decide +kernel
theorem dX8_isRight_105 : decode cX8_isRight 105 = .ok (.iload_n 1, 1) := by decide +kernel
theorem dX8_isRight_106 : decode cX8_isRight 106 = .ok (.iconst 2, 1) := by decide +kernel
theorem dX8_isRight_107 : decode cX8_isRight 107 = .ok (.if_icmp .ne 21, 3) := by decide +kernel
theorem dX8_isRight_110 : decode cX8_isRight 110 = .ok (.iload_n 3, 1) := by decide +kernel
theorem dX8_isRight_111 : decode cX8_isRight 111 = .ok (.bipush 8, 2) := by decide +kernel
theorem dX8_isRight_113 : decode cX8_isRight 113 = .ok (.ishl, 1) := by decide +kernel
theorem dX8_isRight_114 : decode cX8_isRight 114 = .ok (.aload_n 0, 1) := by decide +kernel
theorem dX8_isRight_115 : decode cX8_isRight 115 = .ok (.getfield 67, 3) := by decide +kernel
theorem dX8_isRight_118 : decode cX8_isRight 118 = .ok (.iconst 4, 1) := by decide +kernel
theorem dX8_isRight_119 : decode cX8_isRight 119 = .ok (.iload_n 2, 1) := by decide +kernel
theorem dX8_isRight_120 : decode cX8_isRight 120 = .ok (.iadd, 1) := by decide +kernel
theorem dX8_isRight_121 : decode cX8_isRight 121 = .ok (.baload, 1) := by decide +kernel
theorem dX8_isRight_122 : decode cX8_isRight 122 = .ok (.sipush 255, 3) := by decide +kernel
theorem dX8_isRight_125 : decode cX8_isRight 125 = .ok (.iand, 1) := by decide +kernel
theorem dX8_isRight_126 : decode cX8_isRight 126 = .ok (.ior, 1) := by decide +kernel
theorem dX8_isRight_127 : decode cX8_isRight 127 = .ok (.istore_n 3, 1) := by decide +kernel
theorem dX8_isRight_128 : decode cX8_isRight 128 = .ok (.iload_n 3, 1) := by decide +kernel
theorem dX8_isRight_129 : decode cX8_isRight 129 = .ok (.aload_n 0, 1) := by decide +kernel
theorem dX8_isRight_130 : decode cX8_isRight 130 = .ok (.iconst 3, 1) := by decide +kernel
theorem dX8_isRight_131 : decode cX8_isRight 131 = .ok (.iload_n 2, 1) := by decide +kernel
theorem dX8_isRight_132 : decode cX8_isRight 132 = .ok (.invokevirtual 140, 3) := by decide +kernel
theorem dX8_isRight_135 : decode cX8_isRight 135 = .ok (.if_icmp .ne 7, 3) := by decide +kernel
theorem dX8_isRight_138 : decode cX8_isRight 138 = .ok (.iconst 1, 1) := by decide +kernel
theorem dX8_isRight_139 : decode cX8_isRight 139 = .ok (.goto 4, 3) := by decide +kernel
theorem dX8_isRight_142 : decode cX8_isRight 142 = .ok (.iconst 0, 1) := by decide +kernel
theorem dX8_isRight_143 : decode cX8_isRight 143 = .ok (.ireturn, 1) := by decide +kernel
set_option maxRecDepth 20000 in
theorem ggX8_receiverGets_X8_fileEnds : GoodIn wsX8_receiverGets wsX8_fileEnds := goodIn_r _ [13, 8, 14, 15, 1, 16, 17, 5, 7, 51, 52, 53, 54, 55, 56, 57, 58, 59, 60, 61, 62, 63, 64, 65, 66, 67, 68, 69, 70, 71, 72, 73, 74, 75, 76, 77, 78, 79, 80, 81, 82, 83, 84, 85, 86, 87, 88, 89] (by decide +kernel) (by decide +kernel)
set_option maxRecDepth 20000 in
theorem gX8_receiverGets_X8_fileEnds : GoodIn wsX8_receiverGets (wsV RX8 158 RX8 yX8_fileEnds wsX8_fileEnds) := goodIn_app (goodIn_of _ (by decide +kernel)) ggX8_receiverGets_X8_fileEnds
set_option maxRecDepth 20000 in
theorem ggX8_receiverGets_X8_byteOn : GoodIn wsX8_receiverGets wsX8_byteOn := goodIn_r _ [21, 3, 2, 51, 52, 53, 54, 55, 56, 57, 58, 59, 60, 61, 62, 63, 64, 65, 66, 67, 68, 69, 70, 71, 72, 73, 74, 75, 76, 77, 78, 79, 80, 81, 82, 83, 84, 85, 86, 87, 88, 89] (by decide +kernel) (by decide +kernel)
set_option maxRecDepth 20000 in
theorem gX8_receiverGets_X8_byteOn : GoodIn wsX8_receiverGets (wsV RX8 136 RX8 yX8_byteOn wsX8_byteOn) := goodIn_app (goodIn_of _ (by decide +kernel)) ggX8_receiverGets_X8_byteOn
set_option maxRecDepth 20000 in
theorem ggX8_receiverGets_X8_isRight : GoodIn wsX8_receiverGets wsX8_isRight := goodIn_r _ [25, 15, 3, 2, 26, 27, 28, 12, 29, 30, 31, 51, 52, 53, 54, 55, 56, 57, 58, 59, 60, 61, 62, 63, 64, 65, 66, 67, 68, 69, 70, 71, 72, 73, 74, 75, 76, 77, 78, 79, 80, 81, 82, 83, 84, 85, 86, 87, 88, 89] (by decide +kernel) (by decide +kernel)
set_option maxRecDepth 20000 in
theorem gX8_receiverGets_X8_isRight : GoodIn wsX8_receiverGets (wsV RX8 161 RX8 yX8_isRight wsX8_isRight) := goodIn_app (goodIn_of _ (by decide +kernel)) ggX8_receiverGets_X8_isRight
set_option maxRecDepth 20000 in
theorem ggX8_receiverGets_X8_receiverMiss : GoodIn wsX8_receiverGets wsX8_receiverMiss := goodIn_r _ [35, 4, 1, 6, 18, 19, 20, 12, 21, 3, 2, 36, 37, 38, 39, 15, 51, 52, 53, 54, 55, 56, 57, 58, 59, 60, 61, 62, 63, 64, 65, 66, 67, 68, 69, 70, 71, 72, 73, 74, 75, 76, 77, 78, 79, 80, 81, 82, 83, 84, 85, 86, 87, 88, 89] (by decide +kernel) (by decide +kernel)
set_option maxRecDepth 20000 in
theorem gX8_receiverGets_X8_receiverMiss : GoodIn wsX8_receiverGets (wsV RX8 165 RX8 yX8_receiverMiss wsX8_receiverMiss) := goodIn_app (goodIn_of _ (by decide +kernel)) ggX8_receiverGets_X8_receiverMiss
set_option maxRecDepth 20000 in
theorem ggX8_receiverGets_X8_head : GoodIn wsX8_receiverGets wsX8_head := goodIn_r _ [43, 3, 1, 14, 44, 45, 16, 17, 8, 5, 51, 52, 53, 54, 55, 56, 57, 58, 59, 60, 61, 62, 63, 64, 65, 66, 67, 68, 69, 70, 71, 72, 73, 74, 75, 76, 77, 78, 79, 80, 81, 82, 83, 84, 85, 86, 87, 88, 89] (by decide +kernel) (by decide +kernel)
set_option maxRecDepth 20000 in
theorem gX8_receiverGets_X8_head : GoodIn wsX8_receiverGets (wsV RX8 168 RX8 yX8_head wsX8_head) := goodIn_app (goodIn_of _ (by decide +kernel)) ggX8_receiverGets_X8_head
set_option maxRecDepth 20000 in
theorem ggX8_receiverGets_X8_keep : GoodIn wsX8_receiverGets wsX8_keep := goodIn_r _ [49, 14, 3, 50, 16, 5, 51, 52, 53, 54, 55, 56, 57, 58, 59, 60, 61, 62, 63, 64, 65, 66, 67, 68, 69, 70, 71, 72, 73, 74, 75, 76, 77, 78, 79, 80, 81, 82, 83, 84, 85, 86, 87, 88, 89] (by decide +kernel) (by decide +kernel)
set_option maxRecDepth 20000 in
theorem gX8_receiverGets_X8_keep : GoodIn wsX8_receiverGets (wsV RX8 171 RX8 yX8_keep wsX8_keep) := goodIn_app (goodIn_of _ (by decide +kernel)) ggX8_receiverGets_X8_keep
theorem dX8_receiverGets_0 : decode cX8_receiverGets 0 = .ok (.aload_n 0, 1) := by decide +kernel
theorem dX8_receiverGets_1 : decode cX8_receiverGets 1 = .ok (.getfield 94, 3) := by decide +kernel
theorem dX8_receiverGets_4 : decode cX8_receiverGets 4 = .ok (.ifCond .eq 9, 3) := by decide +kernel
theorem dX8_receiverGets_7 : decode cX8_receiverGets 7 = .ok (.aload_n 0, 1) := by decide +kernel
theorem dX8_receiverGets_8 : decode cX8_receiverGets 8 = .ok (.iconst 0, 1) := by decide +kernel
theorem dX8_receiverGets_9 : decode cX8_receiverGets 9 = .ok (.putfield 70, 3) := by decide +kernel
theorem dX8_receiverGets_12 : decode cX8_receiverGets 12 = .ok (.return_, 1) := by decide +kernel
theorem dX8_receiverGets_13 : decode cX8_receiverGets 13 = .ok (.iload_n 1, 1) := by decide +kernel
theorem dX8_receiverGets_14 : decode cX8_receiverGets 14 = .ok (.ifCond .ne 37, 3) := by decide +kernel
theorem dX8_receiverGets_17 : decode cX8_receiverGets 17 = .ok (.aload_n 0, 1) := by decide +kernel
theorem dX8_receiverGets_18 : decode cX8_receiverGets 18 = .ok (.getfield 70, 3) := by decide +kernel
theorem dX8_receiverGets_21 : decode cX8_receiverGets 21 = .ok (.iconst 1, 1) := by decide +kernel
theorem dX8_receiverGets_22 : decode cX8_receiverGets 22 = .ok (.if_icmp .ne 29, 3) := by decide +kernel
theorem dX8_receiverGets_25 : decode cX8_receiverGets 25 = .ok (.aload_n 0, 1) := by decide +kernel
theorem dX8_receiverGets_26 : decode cX8_receiverGets 26 = .ok (.getfield 67, 3) := by decide +kernel
theorem dX8_receiverGets_29 : decode cX8_receiverGets 29 = .ok (.iconst 0, 1) := by decide +kernel
theorem dX8_receiverGets_30 : decode cX8_receiverGets 30 = .ok (.baload, 1) := by decide +kernel
theorem dX8_receiverGets_31 : decode cX8_receiverGets 31 = .ok (.iconst 4, 1) := by decide +kernel
theorem dX8_receiverGets_32 : decode cX8_receiverGets 32 = .ok (.if_icmp .ne 19, 3) := by decide +kernel
theorem dX8_receiverGets_35 : decode cX8_receiverGets 35 = .ok (.aload_n 0, 1) := by decide +kernel
theorem dX8_receiverGets_36 : decode cX8_receiverGets 36 = .ok (.iconst 0, 1) := by decide +kernel
theorem dX8_receiverGets_37 : decode cX8_receiverGets 37 = .ok (.putfield 97, 3) := by decide +kernel
theorem dX8_receiverGets_40 : decode cX8_receiverGets 40 = .ok (.aload_n 0, 1) := by decide +kernel
theorem dX8_receiverGets_41 : decode cX8_receiverGets 41 = .ok (.invokevirtual 158, 3) := by decide +kernel
theorem dX8_receiverGets_44 : decode cX8_receiverGets 44 = .ok (.aload_n 0, 1) := by decide +kernel
theorem dX8_receiverGets_45 : decode cX8_receiverGets 45 = .ok (.bipush 6, 2) := by decide +kernel
theorem dX8_receiverGets_47 : decode cX8_receiverGets 47 = .ok (.invokevirtual 136, 3) := by decide +kernel
theorem dX8_receiverGets_50 : decode cX8_receiverGets 50 = .ok (.return_, 1) := by decide +kernel
theorem dX8_receiverGets_51 : decode cX8_receiverGets 51 = .ok (.iload_n 1, 1) := by decide +kernel
theorem dX8_receiverGets_52 : decode cX8_receiverGets 52 = .ok (.ifCond .ne 33, 3) := by decide +kernel
theorem dX8_receiverGets_55 : decode cX8_receiverGets 55 = .ok (.aload_n 0, 1) := by decide +kernel
theorem dX8_receiverGets_56 : decode cX8_receiverGets 56 = .ok (.getfield 70, 3) := by decide +kernel
theorem dX8_receiverGets_59 : decode cX8_receiverGets 59 = .ok (.iconst 1, 1) := by decide +kernel
theorem dX8_receiverGets_60 : decode cX8_receiverGets 60 = .ok (.if_icmp .ne 25, 3) := by decide +kernel
theorem dX8_receiverGets_63 : decode cX8_receiverGets 63 = .ok (.aload_n 0, 1) := by decide +kernel
theorem dX8_receiverGets_64 : decode cX8_receiverGets 64 = .ok (.getfield 67, 3) := by decide +kernel
theorem dX8_receiverGets_67 : decode cX8_receiverGets 67 = .ok (.iconst 0, 1) := by decide +kernel
theorem dX8_receiverGets_68 : decode cX8_receiverGets 68 = .ok (.baload, 1) := by decide +kernel
theorem dX8_receiverGets_69 : decode cX8_receiverGets 69 = .ok (.bipush 24, 2) := by decide +kernel
theorem dX8_receiverGets_71 : decode cX8_receiverGets 71 = .ok (.if_icmp .ne 14, 3) := by decide +kernel
theorem dX8_receiverGets_74 : decode cX8_receiverGets 74 = .ok (.aload_n 0, 1) := by decide +kernel
theorem dX8_receiverGets_75 : decode cX8_receiverGets 75 = .ok (.iconst 2, 1) := by decide +kernel
theorem dX8_receiverGets_76 : decode cX8_receiverGets 76 = .ok (.putfield 94, 3) := by decide +kernel
theorem dX8_receiverGets_79 : decode cX8_receiverGets 79 = .ok (.aload_n 0, 1) := by decide +kernel
theorem dX8_receiverGets_80 : decode cX8_receiverGets 80 = .ok (.iconst 0, 1) := by decide +kernel
theorem dX8_receiverGets_81 : decode cX8_receiverGets 81 = .ok (.putfield 70, 3) := by decide +kernel
theorem dX8_receiverGets_84 : decode cX8_receiverGets 84 = .ok (.return_, 1) := by decide +kernel
theorem dX8_receiverGets_85 : decode cX8_receiverGets 85 = .ok (.iload_n 1, 1) := by decide +kernel
theorem dX8_receiverGets_86 : decode cX8_receiverGets 86 = .ok (.ifCond .ne 19, 3) := by decide +kernel
theorem dX8_receiverGets_89 : decode cX8_receiverGets 89 = .ok (.aload_n 0, 1) := by decide +kernel
theorem dX8_receiverGets_90 : decode cX8_receiverGets 90 = .ok (.getfield 70, 3) := by decide +kernel
theorem dX8_receiverGets_93 : decode cX8_receiverGets 93 = .ok (.bipush 100, 2) := by decide +kernel
theorem dX8_receiverGets_95 : decode cX8_receiverGets 95 = .ok (.if_icmp .lt 10, 3) := by decide +kernel
theorem dX8_receiverGets_98 : decode cX8_receiverGets 98 = .ok (.aload_n 0, 1) := by decide +kernel
theorem dX8_receiverGets_99 : decode cX8_receiverGets 99 = .ok (.invokevirtual 161, 3) := by decide +kernel
theorem dX8_receiverGets_102 : decode cX8_receiverGets 102 = .ok (.ifCond .ne 8, 3) := by decide +kernel
theorem dX8_receiverGets_105 : decode cX8_receiverGets 105 = .ok (.aload_n 0, 1) := by decide +kernel
theorem dX8_receiverGets_106 : decode cX8_receiverGets 106 = .ok (.invokevirtual 165, 3) := by decide +kernel
theorem dX8_receiverGets_109 : decode cX8_receiverGets 109 = .ok (.return_, 1) := by decide +kernel
theorem dX8_receiverGets_110 : decode cX8_receiverGets 110 = .ok (.aload_n 0, 1) := by decide +kernel
theorem dX8_receiverGets_111 : decode cX8_receiverGets 111 = .ok (.getfield 67, 3) := by decide +kernel
theorem dX8_receiverGets_114 : decode cX8_receiverGets 114 = .ok (.iconst 1, 1) := by decide +kernel
theorem dX8_receiverGets_115 : decode cX8_receiverGets 115 = .ok (.baload, 1) := by decide +kernel
theorem dX8_receiverGets_116 : decode cX8_receiverGets 116 = .ok (.sipush 255, 3) := by decide +kernel
theorem dX8_receiverGets_119 : decode cX8_receiverGets 119 = .ok (.iand, 1) := by decide +kernel
theorem dX8_receiverGets_120 : decode cX8_receiverGets 120 = .ok (.istore_n 2, 1) := by decide +kernel
theorem dX8_receiverGets_121 : decode cX8_receiverGets 121 = .ok (.iload_n 2, 1) := by decide +kernel
theorem dX8_receiverGets_122 : decode cX8_receiverGets 122 = .ok (.aload_n 0, 1) := by decide +kernel
theorem dX8_receiverGets_123 : decode cX8_receiverGets 123 = .ok (.getfield 100, 3) := by decide +kernel
theorem dX8_receiverGets_126 : decode cX8_receiverGets 126 = .ok (.if_icmp .ne 45, 3) := by decide +kernel
theorem dX8_receiverGets_129 : decode cX8_receiverGets 129 = .ok (.aload_n 0, 1) := by decide +kernel
theorem dX8_receiverGets_130 : decode cX8_receiverGets 130 = .ok (.iconst 0, 1) := by decide +kernel
theorem dX8_receiverGets_131 : decode cX8_receiverGets 131 = .ok (.putfield 97, 3) := by decide +kernel
theorem dX8_receiverGets_134 : decode cX8_receiverGets 134 = .ok (.aload_n 0, 1) := by decide +kernel
theorem dX8_receiverGets_135 : decode cX8_receiverGets 135 = .ok (.iconst 1, 1) := by decide +kernel
theorem dX8_receiverGets_136 : decode cX8_receiverGets 136 = .ok (.putfield 106, 3) := by decide +kernel
theorem dX8_receiverGets_139 : decode cX8_receiverGets 139 = .ok (.aload_n 0, 1) := by decide +kernel
theorem dX8_receiverGets_140 : decode cX8_receiverGets 140 = .ok (.iconst 1, 1) := by decide +kernel
theorem dX8_receiverGets_141 : decode cX8_receiverGets 141 = .ok (.putfield 109, 3) := by decide +kernel
theorem dX8_receiverGets_144 : decode cX8_receiverGets 144 = .ok (.aload_n 0, 1) := by decide +kernel
theorem dX8_receiverGets_145 : decode cX8_receiverGets 145 = .ok (.getfield 103, 3) := by decide +kernel
theorem dX8_receiverGets_148 : decode cX8_receiverGets 148 = .ok (.ifCond .eq 10, 3) := by decide +kernel
theorem dX8_receiverGets_151 : decode cX8_receiverGets 151 = .ok (.aload_n 0, 1) := by decide +kernel
theorem dX8_receiverGets_152 : decode cX8_receiverGets 152 = .ok (.invokevirtual 168, 3) := by decide +kernel
theorem dX8_receiverGets_155 : decode cX8_receiverGets 155 = .ok (.goto 7, 3) := by decide +kernel
theorem dX8_receiverGets_158 : decode cX8_receiverGets 158 = .ok (.aload_n 0, 1) := by decide +kernel
theorem dX8_receiverGets_159 : decode cX8_receiverGets 159 = .ok (.invokevirtual 171, 3) := by decide +kernel
theorem dX8_receiverGets_162 : decode cX8_receiverGets 162 = .ok (.aload_n 0, 1) := by decide +kernel
theorem dX8_receiverGets_163 : decode cX8_receiverGets 163 = .ok (.bipush 6, 2) := by decide +kernel
theorem dX8_receiverGets_165 : decode cX8_receiverGets 165 = .ok (.invokevirtual 136, 3) := by decide +kernel
theorem dX8_receiverGets_168 : decode cX8_receiverGets 168 = .ok (.goto 56, 3) := by decide +kernel
theorem dX8_receiverGets_171 : decode cX8_receiverGets 171 = .ok (.iload_n 2, 1) := by decide +kernel
theorem dX8_receiverGets_172 : decode cX8_receiverGets 172 = .ok (.aload_n 0, 1) := by decide +kernel
theorem dX8_receiverGets_173 : decode cX8_receiverGets 173 = .ok (.getfield 100, 3) := by decide +kernel
theorem dX8_receiverGets_176 : decode cX8_receiverGets 176 = .ok (.sipush 255, 3) := by decide +kernel
theorem dX8_receiverGets_179 : decode cX8_receiverGets 179 = .ok (.iadd, 1) := by decide +kernel
theorem dX8_receiverGets_180 : decode cX8_receiverGets 180 = .ok (.sipush 256, 3) := by decide +kernel
theorem dX8_receiverGets_183 : decode cX8_receiverGets 183 = .ok (.irem, 1) := by decide +kernel
theorem dX8_receiverGets_184 : decode cX8_receiverGets 184 = .ok (.if_icmp .ne 29, 3) := by decide +kernel
theorem dX8_receiverGets_187 : decode cX8_receiverGets 187 = .ok (.aload_n 0, 1) := by decide +kernel
theorem dX8_receiverGets_188 : decode cX8_receiverGets 188 = .ok (.getfield 109, 3) := by decide +kernel
theorem dX8_receiverGets_191 : decode cX8_receiverGets 191 = .ok (.ifCond .eq 22, 3) := by decide +kernel
theorem dX8_receiverGets_194 : decode cX8_receiverGets 194 = .ok (.aload_n 0, 1) := by decide +kernel
theorem dX8_receiverGets_195 : decode cX8_receiverGets 195 = .ok (.iconst 0, 1) := by decide +kernel
theorem dX8_receiverGets_196 : decode cX8_receiverGets 196 = .ok (.putfield 97, 3) := by decide +kernel
theorem dX8_receiverGets_199 : decode cX8_receiverGets 199 = .ok (.aload_n 0, 1) := by decide +kernel
theorem dX8_receiverGets_200 : decode cX8_receiverGets 200 = .ok (.iconst 1, 1) := by decide +kernel
theorem dX8_receiverGets_201 : decode cX8_receiverGets 201 = .ok (.putfield 106, 3) := by decide +kernel
theorem dX8_receiverGets_204 : decode cX8_receiverGets 204 = .ok (.aload_n 0, 1) := by decide +kernel
theorem dX8_receiverGets_205 : decode cX8_receiverGets 205 = .ok (.bipush 6, 2) := by decide +kernel
theorem dX8_receiverGets_207 : decode cX8_receiverGets 207 = .ok (.invokevirtual 136, 3) := by decide +kernel
theorem dX8_receiverGets_210 : decode cX8_receiverGets 210 = .ok (.goto 14, 3) := by decide +kernel
theorem dX8_receiverGets_213 : decode cX8_receiverGets 213 = .ok (.aload_n 0, 1) := by decide +kernel
theorem dX8_receiverGets_214 : decode cX8_receiverGets 214 = .ok (.iconst 2, 1) := by decide +kernel
theorem dX8_receiverGets_215 : decode cX8_receiverGets 215 = .ok (.putfield 94, 3) := by decide +kernel
theorem dX8_receiverGets_218 : decode cX8_receiverGets 218 = .ok (.aload_n 0, 1) := by decide +kernel
theorem dX8_receiverGets_219 : decode cX8_receiverGets 219 = .ok (.bipush 24, 2) := by decide +kernel
theorem dX8_receiverGets_221 : decode cX8_receiverGets 221 = .ok (.invokevirtual 136, 3) := by decide +kernel
theorem dX8_receiverGets_224 : decode cX8_receiverGets 224 = .ok (.return_, 1) := by decide +kernel
theorem dX8_keep_0 : decode cX8_keep 0 = .ok (.aload_n 0, 1) := by decide +kernel
theorem dX8_keep_1 : decode cX8_keep 1 = .ok (.getfield 112, 3) := by decide +kernel
theorem dX8_keep_4 : decode cX8_keep 4 = .ok (.iconst 1, 1) := by decide +kernel
theorem dX8_keep_5 : decode cX8_keep 5 = .ok (.isub, 1) := by decide +kernel
theorem dX8_keep_6 : decode cX8_keep 6 = .ok (.istore_n 1, 1) := by decide +kernel
theorem dX8_keep_7 : decode cX8_keep 7 = .ok (.aload_n 0, 1) := by decide +kernel
theorem dX8_keep_8 : decode cX8_keep 8 = .ok (.getfield 67, 3) := by decide +kernel
theorem dX8_keep_11 : decode cX8_keep 11 = .ok (.iconst 0, 1) := by decide +kernel
theorem dX8_keep_12 : decode cX8_keep 12 = .ok (.baload, 1) := by decide +kernel
theorem dX8_keep_13 : decode cX8_keep 13 = .ok (.iconst 1, 1) := by decide +kernel
theorem dX8_keep_14 : decode cX8_keep 14 = .ok (.if_icmp .ne 9, 3) := by decide +kernel
theorem dX8_keep_17 : decode cX8_keep 17 = .ok (.sipush 128, 3) := by decide +kernel
theorem dX8_keep_20 : decode cX8_keep 20 = .ok (.goto 6, 3) := by decide +kernel
theorem dX8_keep_23 : decode cX8_keep 23 = .ok (.sipush 1024, 3) := by decide +kernel
theorem dX8_keep_26 : decode cX8_keep 26 = .ok (.istore_n 2, 1) := by decide +kernel
theorem dX8_keep_27 : decode cX8_keep 27 = .ok (.iconst 0, 1) := by decide +kernel
theorem dX8_keep_28 : decode cX8_keep 28 = .ok (.istore_n 3, 1) := by decide +kernel
theorem dX8_keep_29 : decode cX8_keep 29 = .ok (.iload_n 3, 1) := by decide +kernel
theorem dX8_keep_30 : decode cX8_keep 30 = .ok (.iload_n 2, 1) := by decide +kernel
theorem dX8_keep_31 : decode cX8_keep 31 = .ok (.if_icmp .ge 36, 3) := by decide +kernel
theorem dX8_keep_34 : decode cX8_keep 34 = .ok (.aload_n 0, 1) := by decide +kernel
theorem dX8_keep_35 : decode cX8_keep 35 = .ok (.getfield 121, 3) := by decide +kernel
theorem dX8_keep_38 : decode cX8_keep 38 = .ok (.sipush 3500, 3) := by decide +kernel
theorem dX8_keep_41 : decode cX8_keep 41 = .ok (.iload_n 1, 1) := by decide +kernel
theorem dX8_keep_42 : decode cX8_keep 42 = .ok (.imul, 1) := by decide +kernel
theorem dX8_keep_43 : decode cX8_keep 43 = .ok (.aload_n 0, 1) := by decide +kernel
theorem dX8_keep_44 : decode cX8_keep 44 = .ok (.getfield 124, 3) := by decide +kernel
theorem dX8_keep_47 : decode cX8_keep 47 = .ok (.iload_n 1, 1) := by decide +kernel
theorem dX8_keep_48 : decode cX8_keep 48 = .ok (.iaload, 1) := by decide +kernel
theorem dX8_keep_49 : decode cX8_keep 49 = .ok (.iadd, 1) := by decide +kernel
theorem dX8_keep_50 : decode cX8_keep 50 = .ok (.iload_n 3, 1) := by decide +kernel
theorem dX8_keep_51 : decode cX8_keep 51 = .ok (.iadd, 1) := by decide +kernel
theorem dX8_keep_52 : decode cX8_keep 52 = .ok (.aload_n 0, 1) := by decide +kernel
theorem dX8_keep_53 : decode cX8_keep 53 = .ok (.getfield 67, 3) := by decide +kernel
theorem dX8_keep_56 : decode cX8_keep 56 = .ok (.iconst 3, 1) := by decide +kernel
theorem dX8_keep_57 : decode cX8_keep 57 = .ok (.iload_n 3, 1) := by decide +kernel
theorem dX8_keep_58 : decode cX8_keep 58 = .ok (.iadd, 1) := by decide +kernel
theorem dX8_keep_59 : decode cX8_keep 59 = .ok (.baload, 1) := by decide +kernel
theorem dX8_keep_60 : decode cX8_keep 60 = .ok (.bastore, 1) := by decide +kernel
theorem dX8_keep_61 : decode cX8_keep 61 = .ok (.iinc 3 1, 3) := by decide +kernel
theorem dX8_keep_64 : decode cX8_keep 64 = .ok (.goto (-35), 3) := by decide +kernel
theorem dX8_keep_67 : decode cX8_keep 67 = .ok (.aload_n 0, 1) := by decide +kernel
theorem dX8_keep_68 : decode cX8_keep 68 = .ok (.getfield 124, 3) := by decide +kernel
theorem dX8_keep_71 : decode cX8_keep 71 = .ok (.iload_n 1, 1) := by decide +kernel
theorem dX8_keep_72 : decode cX8_keep 72 = .ok (.dup2, 1) := by decide +kernel
theorem dX8_keep_73 : decode cX8_keep 73 = .ok (.iaload, 1) := by decide +kernel
theorem dX8_keep_74 : decode cX8_keep 74 = .ok (.iload_n 2, 1) := by decide +kernel
theorem dX8_keep_75 : decode cX8_keep 75 = .ok (.iadd, 1) := by decide +kernel
theorem dX8_keep_76 : decode cX8_keep 76 = .ok (.iastore, 1) := by decide +kernel
theorem dX8_keep_77 : decode cX8_keep 77 = .ok (.aload_n 0, 1) := by decide +kernel
theorem dX8_keep_78 : decode cX8_keep 78 = .ok (.aload_n 0, 1) := by decide +kernel
theorem dX8_keep_79 : decode cX8_keep 79 = .ok (.getfield 100, 3) := by decide +kernel
theorem dX8_keep_82 : decode cX8_keep 82 = .ok (.iconst 1, 1) := by decide +kernel
theorem dX8_keep_83 : decode cX8_keep 83 = .ok (.iadd, 1) := by decide +kernel
theorem dX8_keep_84 : decode cX8_keep 84 = .ok (.sipush 256, 3) := by decide +kernel
theorem dX8_keep_87 : decode cX8_keep 87 = .ok (.irem, 1) := by decide +kernel
theorem dX8_keep_88 : decode cX8_keep 88 = .ok (.putfield 100, 3) := by decide +kernel
theorem dX8_keep_91 : decode cX8_keep 91 = .ok (.return_, 1) := by decide +kernel
theorem dX8_head_0 : decode cX8_head 0 = .ok (.iconst 0, 1) := by decide +kernel
theorem dX8_head_1 : decode cX8_head 1 = .ok (.istore_n 1, 1) := by decide +kernel
theorem dX8_head_2 : decode cX8_head 2 = .ok (.iload_n 1, 1) := by decide +kernel
theorem dX8_head_3 : decode cX8_head 3 = .ok (.sipush 128, 3) := by decide +kernel
theorem dX8_head_6 : decode cX8_head 6 = .ok (.if_icmp .ge 20, 3) := by decide +kernel
theorem dX8_head_9 : decode cX8_head 9 = .ok (.aload_n 0, 1) := by decide +kernel
theorem dX8_head_10 : decode cX8_head 10 = .ok (.getfield 67, 3) := by decide +kernel
theorem dX8_head_13 : decode cX8_head 13 = .ok (.iconst 3, 1) := by decide +kernel
theorem dX8_head_14 : decode cX8_head 14 = .ok (.iload_n 1, 1) := by decide +kernel
theorem dX8_head_15 : decode cX8_head 15 = .ok (.iadd, 1) := by decide +kernel
theorem dX8_head_16 : decode cX8_head 16 = .ok (.baload, 1) := by decide +kernel
theorem dX8_head_17 : decode cX8_head 17 = .ok (.ifCond .eq 9, 3) := by decide +kernel
theorem dX8_head_20 : decode cX8_head 20 = .ok (.iinc 1 1, 3) := by decide +kernel
theorem dX8_head_23 : decode cX8_head 23 = .ok (.goto (-21), 3) := by decide +kernel
theorem dX8_head_26 : decode cX8_head 26 = .ok (.iload_n 1, 1) := by decide +kernel
theorem dX8_head_27 : decode cX8_head 27 = .ok (.ifCond .ne 9, 3) := by decide +kernel
theorem dX8_head_30 : decode cX8_head 30 = .ok (.aload_n 0, 1) := by decide +kernel
theorem dX8_head_31 : decode cX8_head 31 = .ok (.iconst 1, 1) := by decide +kernel
theorem dX8_head_32 : decode cX8_head 32 = .ok (.putfield 94, 3) := by decide +kernel
theorem dX8_head_35 : decode cX8_head 35 = .ok (.return_, 1) := by decide +kernel
theorem dX8_head_36 : decode cX8_head 36 = .ok (.aload_n 0, 1) := by decide +kernel
theorem dX8_head_37 : decode cX8_head 37 = .ok (.getfield 112, 3) := by decide +kernel
theorem dX8_head_40 : decode cX8_head 40 = .ok (.istore_n 2, 1) := by decide +kernel
theorem dX8_head_41 : decode cX8_head 41 = .ok (.aload_n 0, 1) := by decide +kernel
theorem dX8_head_42 : decode cX8_head 42 = .ok (.dup, 1) := by decide +kernel
theorem dX8_head_43 : decode cX8_head 43 = .ok (.getfield 112, 3) := by decide +kernel
theorem dX8_head_46 : decode cX8_head 46 = .ok (.iconst 1, 1) := by decide +kernel
theorem dX8_head_47 : decode cX8_head 47 = .ok (.iadd, 1) := by decide +kernel
theorem dX8_head_48 : decode cX8_head 48 = .ok (.putfield 112, 3) := by decide +kernel
theorem dX8_head_51 : decode cX8_head 51 = .ok (.aload_n 0, 1) := by decide +kernel
theorem dX8_head_52 : decode cX8_head 52 = .ok (.getfield 118, 3) := by decide +kernel
theorem dX8_head_55 : decode cX8_head 55 = .ok (.iload_n 2, 1) := by decide +kernel
theorem dX8_head_56 : decode cX8_head 56 = .ok (.iload_n 1, 1) := by decide +kernel
theorem dX8_head_57 : decode cX8_head 57 = .ok (.bipush 12, 2) := by decide +kernel
theorem dX8_head_59 : decode cX8_head 59 = .ok (.if_icmp .ge 7, 3) := by decide +kernel
theorem dX8_head_62 : decode cX8_head 62 = .ok (.iload_n 1, 1) := by decide +kernel
theorem dX8_head_63 : decode cX8_head 63 = .ok (.goto 5, 3) := by decide +kernel
theorem dX8_head_66 : decode cX8_head 66 = .ok (.bipush 12, 2) := by decide +kernel
end
section
theorem dX8_head_68 : decode cX8_head 68 = .ok (.iastore, 1) := by decide +kernel
theorem dX8_head_69 : decode cX8_head 69 = .ok (.iconst 0, 1) := by decide +kernel
theorem dX8_head_70 : decode cX8_head 70 = .ok (.istore_n 3, 1) := by decide +kernel
theorem dX8_head_71 : decode cX8_head 71 = .ok (.iload_n 3, 1) := by decide +kernel
theorem dX8_head_72 : decode cX8_head 72 = .ok (.aload_n 0, 1) := by decide +kernel
theorem dX8_head_73 : decode cX8_head 73 = .ok (.getfield 118, 3) := by decide +kernel
theorem dX8_head_76 : decode cX8_head 76 = .ok (.iload_n 2, 1) := by decide +kernel
theorem dX8_head_77 : decode cX8_head 77 = .ok (.iaload, 1) := by decide +kernel
theorem dX8_head_78 : decode cX8_head 78 = .ok (.if_icmp .ge 28, 3) := by decide +kernel
theorem dX8_head_81 : decode cX8_head 81 = .ok (.aload_n 0, 1) := by decide +kernel
theorem dX8_head_82 : decode cX8_head 82 = .ok (.getfield 115, 3) := by decide +kernel
theorem dX8_head_85 : decode cX8_head 85 = .ok (.bipush 12, 2) := by decide +kernel
theorem dX8_head_87 : decode cX8_head 87 = .ok (.iload_n 2, 1) := by decide +kernel
theorem dX8_head_88 : decode cX8_head 88 = .ok (.imul, 1) := by decide +kernel
theorem dX8_head_89 : decode cX8_head 89 = .ok (.iload_n 3, 1) := by decide +kernel
theorem dX8_head_90 : decode cX8_head 90 = .ok (.iadd, 1) := by decide +kernel
theorem dX8_head_91 : decode cX8_head 91 = .ok (.aload_n 0, 1) := by decide +kernel
theorem dX8_head_92 : decode cX8_head 92 = .ok (.getfield 67, 3) := by decide +kernel
theorem dX8_head_95 : decode cX8_head 95 = .ok (.iconst 3, 1) := by decide +kernel
theorem dX8_head_96 : decode cX8_head 96 = .ok (.iload_n 3, 1) := by decide +kernel
theorem dX8_head_97 : decode cX8_head 97 = .ok (.iadd, 1) := by decide +kernel
theorem dX8_head_98 : decode cX8_head 98 = .ok (.baload, 1) := by decide +kernel
theorem dX8_head_99 : decode cX8_head 99 = .ok (.bastore, 1) := by decide +kernel
theorem dX8_head_100 : decode cX8_head 100 = .ok (.iinc 3 1, 3) := by decide +kernel
theorem dX8_head_103 : decode cX8_head 103 = .ok (.goto (-32), 3) := by decide +kernel
theorem dX8_head_106 : decode cX8_head 106 = .ok (.aload_n 0, 1) := by decide +kernel
theorem dX8_head_107 : decode cX8_head 107 = .ok (.getfield 124, 3) := by decide +kernel
theorem dX8_head_110 : decode cX8_head 110 = .ok (.iload_n 2, 1) := by decide +kernel
theorem dX8_head_111 : decode cX8_head 111 = .ok (.iconst 0, 1) := by decide +kernel
theorem dX8_head_112 : decode cX8_head 112 = .ok (.iastore, 1) := by decide +kernel
theorem dX8_head_113 : decode cX8_head 113 = .ok (.aload_n 0, 1) := by decide +kernel
theorem dX8_head_114 : decode cX8_head 114 = .ok (.iconst 0, 1) := by decide +kernel
theorem dX8_head_115 : decode cX8_head 115 = .ok (.putfield 127, 3) := by decide +kernel
theorem dX8_head_118 : decode cX8_head 118 = .ok (.iconst 4, 1) := by decide +kernel
theorem dX8_head_119 : decode cX8_head 119 = .ok (.iload_n 1, 1) := by decide +kernel
theorem dX8_head_120 : decode cX8_head 120 = .ok (.iadd, 1) := by decide +kernel
theorem dX8_head_121 : decode cX8_head 121 = .ok (.istore_n 3, 1) := by decide +kernel
theorem dX8_head_122 : decode cX8_head 122 = .ok (.iconst 0, 1) := by decide +kernel
theorem dX8_head_123 : decode cX8_head 123 = .ok (.istore 4, 2) := by decide +kernel
theorem dX8_head_125 : decode cX8_head 125 = .ok (.iload 4, 2) := by decide +kernel
theorem dX8_head_127 : decode cX8_head 127 = .ok (.bipush 6, 2) := by decide +kernel
theorem dX8_head_129 : decode cX8_head 129 = .ok (.if_icmp .ge 71, 3) := by decide +kernel
theorem dX8_head_132 : decode cX8_head 132 = .ok (.iload_n 3, 1) := by decide +kernel
theorem dX8_head_133 : decode cX8_head 133 = .ok (.iload 4, 2) := by decide +kernel
theorem dX8_head_135 : decode cX8_head 135 = .ok (.iadd, 1) := by decide +kernel
theorem dX8_head_136 : decode cX8_head 136 = .ok (.sipush 131, 3) := by decide +kernel
theorem dX8_head_139 : decode cX8_head 139 = .ok (.if_icmp .ge 61, 3) := by decide +kernel
theorem dX8_head_142 : decode cX8_head 142 = .ok (.aload_n 0, 1) := by decide +kernel
theorem dX8_head_143 : decode cX8_head 143 = .ok (.getfield 67, 3) := by decide +kernel
theorem dX8_head_146 : decode cX8_head 146 = .ok (.iload_n 3, 1) := by decide +kernel
theorem dX8_head_147 : decode cX8_head 147 = .ok (.iload 4, 2) := by decide +kernel
theorem dX8_head_149 : decode cX8_head 149 = .ok (.iadd, 1) := by decide +kernel
theorem dX8_head_150 : decode cX8_head 150 = .ok (.baload, 1) := by decide +kernel
theorem dX8_head_151 : decode cX8_head 151 = .ok (.bipush 48, 2) := by decide +kernel
theorem dX8_head_153 : decode cX8_head 153 = .ok (.if_icmp .lt 47, 3) := by decide +kernel
theorem dX8_head_156 : decode cX8_head 156 = .ok (.aload_n 0, 1) := by decide +kernel
theorem dX8_head_157 : decode cX8_head 157 = .ok (.getfield 67, 3) := by decide +kernel
theorem dX8_head_160 : decode cX8_head 160 = .ok (.iload_n 3, 1) := by decide +kernel
theorem dX8_head_161 : decode cX8_head 161 = .ok (.iload 4, 2) := by decide +kernel
theorem dX8_head_163 : decode cX8_head 163 = .ok (.iadd, 1) := by decide +kernel
theorem dX8_head_164 : decode cX8_head 164 = .ok (.baload, 1) := by decide +kernel
theorem dX8_head_165 : decode cX8_head 165 = .ok (.bipush 57, 2) := by decide +kernel
theorem dX8_head_167 : decode cX8_head 167 = .ok (.if_icmp .gt 33, 3) := by decide +kernel
theorem dX8_head_170 : decode cX8_head 170 = .ok (.aload_n 0, 1) := by decide +kernel
theorem dX8_head_171 : decode cX8_head 171 = .ok (.aload_n 0, 1) := by decide +kernel
theorem dX8_head_172 : decode cX8_head 172 = .ok (.getfield 127, 3) := by decide +kernel
theorem dX8_head_175 : decode cX8_head 175 = .ok (.bipush 10, 2) := by decide +kernel
theorem dX8_head_177 : decode cX8_head 177 = .ok (.imul, 1) := by decide +kernel
theorem dX8_head_178 : decode cX8_head 178 = .ok (.aload_n 0, 1) := by decide +kernel
theorem dX8_head_179 : decode cX8_head 179 = .ok (.getfield 67, 3) := by decide +kernel
theorem dX8_head_182 : decode cX8_head 182 = .ok (.iload_n 3, 1) := by decide +kernel
theorem dX8_head_183 : decode cX8_head 183 = .ok (.iload 4, 2) := by decide +kernel
theorem dX8_head_185 : decode cX8_head 185 = .ok (.iadd, 1) := by decide +kernel
theorem dX8_head_186 : decode cX8_head 186 = .ok (.baload, 1) := by decide +kernel
theorem dX8_head_187 : decode cX8_head 187 = .ok (.iadd, 1) := by decide +kernel
theorem dX8_head_188 : decode cX8_head 188 = .ok (.bipush 48, 2) := by decide +kernel
theorem dX8_head_190 : decode cX8_head 190 = .ok (.isub, 1) := by decide +kernel
theorem dX8_head_191 : decode cX8_head 191 = .ok (.putfield 127, 3) := by decide +kernel
theorem dX8_head_194 : decode cX8_head 194 = .ok (.iinc 4 1, 3) := by decide +kernel
theorem dX8_head_197 : decode cX8_head 197 = .ok (.goto (-72), 3) := by decide +kernel
theorem dX8_head_200 : decode cX8_head 200 = .ok (.aload_n 0, 1) := by decide +kernel
theorem dX8_head_201 : decode cX8_head 201 = .ok (.iconst 0, 1) := by decide +kernel
theorem dX8_head_202 : decode cX8_head 202 = .ok (.putfield 103, 3) := by decide +kernel
theorem dX8_head_205 : decode cX8_head 205 = .ok (.aload_n 0, 1) := by decide +kernel
theorem dX8_head_206 : decode cX8_head 206 = .ok (.iconst 1, 1) := by decide +kernel
theorem dX8_head_207 : decode cX8_head 207 = .ok (.putfield 100, 3) := by decide +kernel
theorem dX8_head_210 : decode cX8_head 210 = .ok (.return_, 1) := by decide +kernel
theorem dX8_fileEnds_0 : decode cX8_fileEnds 0 = .ok (.aload_n 0, 1) := by decide +kernel
theorem dX8_fileEnds_1 : decode cX8_fileEnds 1 = .ok (.getfield 103, 3) := by decide +kernel
theorem dX8_fileEnds_4 : decode cX8_fileEnds 4 = .ok (.ifCond .eq 4, 3) := by decide +kernel
theorem dX8_fileEnds_7 : decode cX8_fileEnds 7 = .ok (.return_, 1) := by decide +kernel
theorem dX8_fileEnds_8 : decode cX8_fileEnds 8 = .ok (.aload_n 0, 1) := by decide +kernel
theorem dX8_fileEnds_9 : decode cX8_fileEnds 9 = .ok (.getfield 112, 3) := by decide +kernel
theorem dX8_fileEnds_12 : decode cX8_fileEnds 12 = .ok (.iconst 1, 1) := by decide +kernel
theorem dX8_fileEnds_13 : decode cX8_fileEnds 13 = .ok (.isub, 1) := by decide +kernel
theorem dX8_fileEnds_14 : decode cX8_fileEnds 14 = .ok (.istore_n 1, 1) := by decide +kernel
theorem dX8_fileEnds_15 : decode cX8_fileEnds 15 = .ok (.aload_n 0, 1) := by decide +kernel
theorem dX8_fileEnds_16 : decode cX8_fileEnds 16 = .ok (.getfield 64, 3) := by decide +kernel
theorem dX8_fileEnds_19 : decode cX8_fileEnds 19 = .ok (.iconst 3, 1) := by decide +kernel
theorem dX8_fileEnds_20 : decode cX8_fileEnds 20 = .ok (.if_icmp .ge 9, 3) := by decide +kernel
theorem dX8_fileEnds_23 : decode cX8_fileEnds 23 = .ok (.aload_n 0, 1) := by decide +kernel
theorem dX8_fileEnds_24 : decode cX8_fileEnds 24 = .ok (.iconst 1, 1) := by decide +kernel
theorem dX8_fileEnds_25 : decode cX8_fileEnds 25 = .ok (.putfield 94, 3) := by decide +kernel
theorem dX8_fileEnds_28 : decode cX8_fileEnds 28 = .ok (.return_, 1) := by decide +kernel
theorem dX8_fileEnds_29 : decode cX8_fileEnds 29 = .ok (.aload_n 0, 1) := by decide +kernel
theorem dX8_fileEnds_30 : decode cX8_fileEnds 30 = .ok (.getfield 124, 3) := by decide +kernel
theorem dX8_fileEnds_33 : decode cX8_fileEnds 33 = .ok (.iload_n 1, 1) := by decide +kernel
theorem dX8_fileEnds_34 : decode cX8_fileEnds 34 = .ok (.iaload, 1) := by decide +kernel
theorem dX8_fileEnds_35 : decode cX8_fileEnds 35 = .ok (.aload_n 0, 1) := by decide +kernel
theorem dX8_fileEnds_36 : decode cX8_fileEnds 36 = .ok (.getfield 127, 3) := by decide +kernel
theorem dX8_fileEnds_39 : decode cX8_fileEnds 39 = .ok (.if_icmp .le 13, 3) := by decide +kernel
theorem dX8_fileEnds_42 : decode cX8_fileEnds 42 = .ok (.aload_n 0, 1) := by decide +kernel
theorem dX8_fileEnds_43 : decode cX8_fileEnds 43 = .ok (.getfield 124, 3) := by decide +kernel
theorem dX8_fileEnds_46 : decode cX8_fileEnds 46 = .ok (.iload_n 1, 1) := by decide +kernel
theorem dX8_fileEnds_47 : decode cX8_fileEnds 47 = .ok (.aload_n 0, 1) := by decide +kernel
theorem dX8_fileEnds_48 : decode cX8_fileEnds 48 = .ok (.getfield 127, 3) := by decide +kernel
theorem dX8_fileEnds_51 : decode cX8_fileEnds 51 = .ok (.iastore, 1) := by decide +kernel
theorem dX8_fileEnds_52 : decode cX8_fileEnds 52 = .ok (.aload_n 0, 1) := by decide +kernel
theorem dX8_fileEnds_53 : decode cX8_fileEnds 53 = .ok (.iconst 1, 1) := by decide +kernel
theorem dX8_fileEnds_54 : decode cX8_fileEnds 54 = .ok (.putfield 103, 3) := by decide +kernel
theorem dX8_fileEnds_57 : decode cX8_fileEnds 57 = .ok (.aload_n 0, 1) := by decide +kernel
theorem dX8_fileEnds_58 : decode cX8_fileEnds 58 = .ok (.iconst 0, 1) := by decide +kernel
theorem dX8_fileEnds_59 : decode cX8_fileEnds 59 = .ok (.putfield 100, 3) := by decide +kernel
theorem dX8_fileEnds_62 : decode cX8_fileEnds 62 = .ok (.aload_n 0, 1) := by decide +kernel
theorem dX8_fileEnds_63 : decode cX8_fileEnds 63 = .ok (.iconst 0, 1) := by decide +kernel
theorem dX8_fileEnds_64 : decode cX8_fileEnds 64 = .ok (.putfield 109, 3) := by decide +kernel
theorem dX8_fileEnds_67 : decode cX8_fileEnds 67 = .ok (.return_, 1) := by decide +kernel
set_option maxRecDepth 20000 in
theorem ggX8_step_X8_senderGets : GoodIn wsX8_step wsX8_senderGets := goodIn_r _ [13, 6, 7, 14, 15, 16, 17, 18, 19, 20, 12, 21, 22, 23, 24, 25, 26, 27, 28, 29, 30, 31, 32, 33, 34, 35, 36, 37, 38, 39, 40, 41, 42, 43, 44, 45, 46, 47, 48, 49, 86, 87, 88, 89, 90, 91, 92, 93, 94, 95, 96, 97, 98, 99, 100, 101, 102, 103, 104, 105, 106, 107, 108, 109, 110, 111, 112, 113, 114, 115, 116, 117, 118, 119, 120, 121, 122, 123, 124] (by decide +kernel) (by decide +kernel)
set_option maxRecDepth 20000 in
theorem gX8_step_X8_senderGets : GoodIn wsX8_step (wsV RX8 174 RX8 yX8_senderGets wsX8_senderGets) := goodIn_app (goodIn_of _ (by decide +kernel)) ggX8_step_X8_senderGets
set_option maxRecDepth 20000 in
theorem ggX8_step_X8_receiverGets : GoodIn wsX8_step wsX8_receiverGets := goodIn_r _ [53, 54, 6, 7, 55, 56, 57, 58, 59, 60, 61, 62, 12, 63, 64, 22, 65, 66, 27, 28, 29, 30, 67, 68, 69, 70, 44, 45, 46, 47, 48, 49, 71, 72, 73, 74, 18, 19, 20, 21, 75, 76, 77, 78, 79, 80, 81, 82, 83, 84, 85, 86, 87, 88, 89, 90, 91, 92, 93, 94, 95, 96, 97, 98, 99, 100, 101, 102, 103, 104, 105, 106, 107, 108, 109, 110, 111, 112, 113, 114, 115, 116, 117, 118, 119, 120, 121, 122, 123, 124] (by decide +kernel) (by decide +kernel)
set_option maxRecDepth 20000 in
theorem gX8_step_X8_receiverGets : GoodIn wsX8_step (wsV RX8 177 RX8 yX8_receiverGets wsX8_receiverGets) := goodIn_app (goodIn_of _ (by decide +kernel)) ggX8_step_X8_receiverGets
theorem dX8_step_0 : decode cX8_step 0 = .ok (.aload_n 0, 1) := by decide +kernel
theorem dX8_step_1 : decode cX8_step 1 = .ok (.iconst 0, 1) := by decide +kernel
theorem dX8_step_2 : decode cX8_step 2 = .ok (.putfield 7, 3) := by decide +kernel
theorem dX8_step_5 : decode cX8_step 5 = .ok (.aload_n 0, 1) := by decide +kernel
theorem dX8_step_6 : decode cX8_step 6 = .ok (.getfield 57, 3) := by decide +kernel
theorem dX8_step_9 : decode cX8_step 9 = .ok (.ifCond .ne 5, 3) := by decide +kernel
theorem dX8_step_12 : decode cX8_step 12 = .ok (.iconst (-1), 1) := by decide +kernel
theorem dX8_step_13 : decode cX8_step 13 = .ok (.ireturn, 1) := by decide +kernel
theorem dX8_step_14 : decode cX8_step 14 = .ok (.aload_n 0, 1) := by decide +kernel
theorem dX8_step_15 : decode cX8_step 15 = .ok (.getfield 76, 3) := by decide +kernel
theorem dX8_step_18 : decode cX8_step 18 = .ok (.ifCond .eq 14, 3) := by decide +kernel
theorem dX8_step_21 : decode cX8_step 21 = .ok (.aload_n 0, 1) := by decide +kernel
theorem dX8_step_22 : decode cX8_step 22 = .ok (.getfield 82, 3) := by decide +kernel
theorem dX8_step_25 : decode cX8_step 25 = .ok (.ifCond .ne 7, 3) := by decide +kernel
theorem dX8_step_28 : decode cX8_step 28 = .ok (.iconst 1, 1) := by decide +kernel
theorem dX8_step_29 : decode cX8_step 29 = .ok (.goto 4, 3) := by decide +kernel
theorem dX8_step_32 : decode cX8_step 32 = .ok (.iconst 0, 1) := by decide +kernel
theorem dX8_step_33 : decode cX8_step 33 = .ok (.istore_n 1, 1) := by decide +kernel
theorem dX8_step_34 : decode cX8_step 34 = .ok (.aload_n 0, 1) := by decide +kernel
theorem dX8_step_35 : decode cX8_step 35 = .ok (.getfield 76, 3) := by decide +kernel
theorem dX8_step_38 : decode cX8_step 38 = .ok (.ifCond .eq 43, 3) := by decide +kernel
theorem dX8_step_41 : decode cX8_step 41 = .ok (.iload_n 1, 1) := by decide +kernel
theorem dX8_step_42 : decode cX8_step 42 = .ok (.ifCond .ne 39, 3) := by decide +kernel
theorem dX8_step_45 : decode cX8_step 45 = .ok (.aload_n 0, 1) := by decide +kernel
theorem dX8_step_46 : decode cX8_step 46 = .ok (.getfield 79, 3) := by decide +kernel
theorem dX8_step_49 : decode cX8_step 49 = .ok (.aload_n 0, 1) := by decide +kernel
theorem dX8_step_50 : decode cX8_step 50 = .ok (.getfield 70, 3) := by decide +kernel
theorem dX8_step_53 : decode cX8_step 53 = .ok (.irem, 1) := by decide +kernel
theorem dX8_step_54 : decode cX8_step 54 = .ok (.istore_n 2, 1) := by decide +kernel
theorem dX8_step_55 : decode cX8_step 55 = .ok (.iload_n 2, 1) := by decide +kernel
theorem dX8_step_56 : decode cX8_step 56 = .ok (.ifCond .ge 10, 3) := by decide +kernel
theorem dX8_step_59 : decode cX8_step 59 = .ok (.iload_n 2, 1) := by decide +kernel
theorem dX8_step_60 : decode cX8_step 60 = .ok (.aload_n 0, 1) := by decide +kernel
theorem dX8_step_61 : decode cX8_step 61 = .ok (.getfield 70, 3) := by decide +kernel
theorem dX8_step_64 : decode cX8_step 64 = .ok (.iadd, 1) := by decide +kernel
theorem dX8_step_65 : decode cX8_step 65 = .ok (.istore_n 2, 1) := by decide +kernel
theorem dX8_step_66 : decode cX8_step 66 = .ok (.aload_n 0, 1) := by decide +kernel
theorem dX8_step_67 : decode cX8_step 67 = .ok (.getfield 67, 3) := by decide +kernel
theorem dX8_step_70 : decode cX8_step 70 = .ok (.iload_n 2, 1) := by decide +kernel
theorem dX8_step_71 : decode cX8_step 71 = .ok (.dup2, 1) := by decide +kernel
theorem dX8_step_72 : decode cX8_step 72 = .ok (.baload, 1) := by decide +kernel
theorem dX8_step_73 : decode cX8_step 73 = .ok (.aload_n 0, 1) := by decide +kernel
theorem dX8_step_74 : decode cX8_step 74 = .ok (.getfield 82, 3) := by decide +kernel
theorem dX8_step_77 : decode cX8_step 77 = .ok (.i2b, 1) := by decide +kernel
theorem dX8_step_78 : decode cX8_step 78 = .ok (.ixor, 1) := by decide +kernel
theorem dX8_step_79 : decode cX8_step 79 = .ok (.i2b, 1) := by decide +kernel
theorem dX8_step_80 : decode cX8_step 80 = .ok (.bastore, 1) := by decide +kernel
theorem dX8_step_81 : decode cX8_step 81 = .ok (.aload_n 0, 1) := by decide +kernel
theorem dX8_step_82 : decode cX8_step 82 = .ok (.iconst 0, 1) := by decide +kernel
theorem dX8_step_83 : decode cX8_step 83 = .ok (.putfield 76, 3) := by decide +kernel
theorem dX8_step_86 : decode cX8_step 86 = .ok (.aload_n 0, 1) := by decide +kernel
theorem dX8_step_87 : decode cX8_step 87 = .ok (.getfield 73, 3) := by decide +kernel
theorem dX8_step_90 : decode cX8_step 90 = .ok (.ifCond .eq 11, 3) := by decide +kernel
theorem dX8_step_93 : decode cX8_step 93 = .ok (.aload_n 0, 1) := by decide +kernel
theorem dX8_step_94 : decode cX8_step 94 = .ok (.iload_n 1, 1) := by decide +kernel
theorem dX8_step_95 : decode cX8_step 95 = .ok (.invokevirtual 174, 3) := by decide +kernel
theorem dX8_step_98 : decode cX8_step 98 = .ok (.goto 8, 3) := by decide +kernel
theorem dX8_step_101 : decode cX8_step 101 = .ok (.aload_n 0, 1) := by decide +kernel
theorem dX8_step_102 : decode cX8_step 102 = .ok (.iload_n 1, 1) := by decide +kernel
theorem dX8_step_103 : decode cX8_step 103 = .ok (.invokevirtual 177, 3) := by decide +kernel
theorem dX8_step_106 : decode cX8_step 106 = .ok (.aload_n 0, 1) := by decide +kernel
theorem dX8_step_107 : decode cX8_step 107 = .ok (.aload_n 0, 1) := by decide +kernel
theorem dX8_step_108 : decode cX8_step 108 = .ok (.getfield 73, 3) := by decide +kernel
theorem dX8_step_111 : decode cX8_step 111 = .ok (.ifCond .ne 7, 3) := by decide +kernel
theorem dX8_step_114 : decode cX8_step 114 = .ok (.iconst 1, 1) := by decide +kernel
theorem dX8_step_115 : decode cX8_step 115 = .ok (.goto 4, 3) := by decide +kernel
theorem dX8_step_118 : decode cX8_step 118 = .ok (.iconst 0, 1) := by decide +kernel
theorem dX8_step_119 : decode cX8_step 119 = .ok (.putfield 73, 3) := by decide +kernel
theorem dX8_step_122 : decode cX8_step 122 = .ok (.aload_n 0, 1) := by decide +kernel
theorem dX8_step_123 : decode cX8_step 123 = .ok (.getfield 70, 3) := by decide +kernel
theorem dX8_step_126 : decode cX8_step 126 = .ok (.ifCond .ne 10, 3) := by decide +kernel
theorem dX8_step_129 : decode cX8_step 129 = .ok (.aload_n 0, 1) := by decide +kernel
theorem dX8_step_130 : decode cX8_step 130 = .ok (.iconst 0, 1) := by decide +kernel
theorem dX8_step_131 : decode cX8_step 131 = .ok (.putfield 57, 3) := by decide +kernel
theorem dX8_step_134 : decode cX8_step 134 = .ok (.iconst (-1), 1) := by decide +kernel
theorem dX8_step_135 : decode cX8_step 135 = .ok (.ireturn, 1) := by decide +kernel
theorem dX8_step_136 : decode cX8_step 136 = .ok (.aload_n 0, 1) := by decide +kernel
theorem dX8_step_137 : decode cX8_step 137 = .ok (.getfield 67, 3) := by decide +kernel
theorem dX8_step_140 : decode cX8_step 140 = .ok (.iconst 0, 1) := by decide +kernel
theorem dX8_step_141 : decode cX8_step 141 = .ok (.baload, 1) := by decide +kernel
theorem dX8_step_142 : decode cX8_step 142 = .ok (.sipush 255, 3) := by decide +kernel
theorem dX8_step_145 : decode cX8_step 145 = .ok (.iand, 1) := by decide +kernel
theorem dX8_step_146 : decode cX8_step 146 = .ok (.ireturn, 1) := by decide +kernel
theorem dX8_line_0 : decode cX8_line 0 = .ok (.aload_n 0, 1) := by decide +kernel
theorem dX8_line_1 : decode cX8_line 1 = .ok (.iconst 0, 1) := by decide +kernel
theorem dX8_line_2 : decode cX8_line 2 = .ok (.putfield 7, 3) := by decide +kernel
theorem dX8_line_5 : decode cX8_line 5 = .ok (.aload_n 0, 1) := by decide +kernel
theorem dX8_line_6 : decode cX8_line 6 = .ok (.getfield 57, 3) := by decide +kernel
theorem dX8_line_9 : decode cX8_line 9 = .ok (.ifCond .eq 10, 3) := by decide +kernel
theorem dX8_line_12 : decode cX8_line 12 = .ok (.aload_n 0, 1) := by decide +kernel
theorem dX8_line_13 : decode cX8_line 13 = .ok (.getfield 70, 3) := by decide +kernel
theorem dX8_line_16 : decode cX8_line 16 = .ok (.goto 4, 3) := by decide +kernel
theorem dX8_line_19 : decode cX8_line 19 = .ok (.iconst 0, 1) := by decide +kernel
theorem dX8_line_20 : decode cX8_line 20 = .ok (.ireturn, 1) := by decide +kernel
theorem dX8_lineAt_0 : decode cX8_lineAt 0 = .ok (.aload_n 0, 1) := by decide +kernel
theorem dX8_lineAt_1 : decode cX8_lineAt 1 = .ok (.iconst 0, 1) := by decide +kernel
theorem dX8_lineAt_2 : decode cX8_lineAt 2 = .ok (.putfield 7, 3) := by decide +kernel
theorem dX8_lineAt_5 : decode cX8_lineAt 5 = .ok (.aload_n 0, 1) := by decide +kernel
theorem dX8_lineAt_6 : decode cX8_lineAt 6 = .ok (.getfield 57, 3) := by decide +kernel
theorem dX8_lineAt_9 : decode cX8_lineAt 9 = .ok (.ifCond .eq 15, 3) := by decide +kernel
theorem dX8_lineAt_12 : decode cX8_lineAt 12 = .ok (.iload_n 1, 1) := by decide +kernel
theorem dX8_lineAt_13 : decode cX8_lineAt 13 = .ok (.ifCond .lt 11, 3) := by decide +kernel
theorem dX8_lineAt_16 : decode cX8_lineAt 16 = .ok (.iload_n 1, 1) := by decide +kernel
theorem dX8_lineAt_17 : decode cX8_lineAt 17 = .ok (.aload_n 0, 1) := by decide +kernel
theorem dX8_lineAt_18 : decode cX8_lineAt 18 = .ok (.getfield 70, 3) := by decide +kernel
theorem dX8_lineAt_21 : decode cX8_lineAt 21 = .ok (.if_icmp .lt 10, 3) := by decide +kernel
theorem dX8_lineAt_24 : decode cX8_lineAt 24 = .ok (.aload_n 0, 1) := by decide +kernel
theorem dX8_lineAt_25 : decode cX8_lineAt 25 = .ok (.iconst 1, 1) := by decide +kernel
theorem dX8_lineAt_26 : decode cX8_lineAt 26 = .ok (.putfield 7, 3) := by decide +kernel
theorem dX8_lineAt_29 : decode cX8_lineAt 29 = .ok (.iconst 0, 1) := by decide +kernel
theorem dX8_lineAt_30 : decode cX8_lineAt 30 = .ok (.ireturn, 1) := by decide +kernel
theorem dX8_lineAt_31 : decode cX8_lineAt 31 = .ok (.aload_n 0, 1) := by decide +kernel
theorem dX8_lineAt_32 : decode cX8_lineAt 32 = .ok (.getfield 67, 3) := by decide +kernel
theorem dX8_lineAt_35 : decode cX8_lineAt 35 = .ok (.iload_n 1, 1) := by decide +kernel
theorem dX8_lineAt_36 : decode cX8_lineAt 36 = .ok (.baload, 1) := by decide +kernel
theorem dX8_lineAt_37 : decode cX8_lineAt 37 = .ok (.sipush 255, 3) := by decide +kernel
theorem dX8_lineAt_40 : decode cX8_lineAt 40 = .ok (.iand, 1) := by decide +kernel
theorem dX8_lineAt_41 : decode cX8_lineAt 41 = .ok (.ireturn, 1) := by decide +kernel
theorem dX8_state_0 : decode cX8_state 0 = .ok (.aload_n 0, 1) := by decide +kernel
theorem dX8_state_1 : decode cX8_state 1 = .ok (.iconst 0, 1) := by decide +kernel
theorem dX8_state_2 : decode cX8_state 2 = .ok (.putfield 7, 3) := by decide +kernel
theorem dX8_state_5 : decode cX8_state 5 = .ok (.aload_n 0, 1) := by decide +kernel
theorem dX8_state_6 : decode cX8_state 6 = .ok (.getfield 61, 3) := by decide +kernel
theorem dX8_state_9 : decode cX8_state 9 = .ok (.ifCond .eq 12, 3) := by decide +kernel
theorem dX8_state_12 : decode cX8_state 12 = .ok (.iload_n 1, 1) := by decide +kernel
theorem dX8_state_13 : decode cX8_state 13 = .ok (.ifCond .lt 8, 3) := by decide +kernel
theorem dX8_state_16 : decode cX8_state 16 = .ok (.iload_n 1, 1) := by decide +kernel
theorem dX8_state_17 : decode cX8_state 17 = .ok (.iconst 1, 1) := by decide +kernel
theorem dX8_state_18 : decode cX8_state 18 = .ok (.if_icmp .le 5, 3) := by decide +kernel
theorem dX8_state_21 : decode cX8_state 21 = .ok (.iconst (-1), 1) := by decide +kernel
theorem dX8_state_22 : decode cX8_state 22 = .ok (.ireturn, 1) := by decide +kernel
theorem dX8_state_23 : decode cX8_state 23 = .ok (.iload_n 1, 1) := by decide +kernel
theorem dX8_state_24 : decode cX8_state 24 = .ok (.ifCond .ne 10, 3) := by decide +kernel
theorem dX8_state_27 : decode cX8_state 27 = .ok (.aload_n 0, 1) := by decide +kernel
theorem dX8_state_28 : decode cX8_state 28 = .ok (.getfield 85, 3) := by decide +kernel
theorem dX8_state_31 : decode cX8_state 31 = .ok (.goto 7, 3) := by decide +kernel
theorem dX8_state_34 : decode cX8_state 34 = .ok (.aload_n 0, 1) := by decide +kernel
theorem dX8_state_35 : decode cX8_state 35 = .ok (.getfield 94, 3) := by decide +kernel
theorem dX8_state_38 : decode cX8_state 38 = .ok (.ireturn, 1) := by decide +kernel
theorem dX8_received_0 : decode cX8_received 0 = .ok (.aload_n 0, 1) := by decide +kernel
theorem dX8_received_1 : decode cX8_received 1 = .ok (.iconst 0, 1) := by decide +kernel
theorem dX8_received_2 : decode cX8_received 2 = .ok (.putfield 7, 3) := by decide +kernel
theorem dX8_received_5 : decode cX8_received 5 = .ok (.aload_n 0, 1) := by decide +kernel
theorem dX8_received_6 : decode cX8_received 6 = .ok (.getfield 112, 3) := by decide +kernel
theorem dX8_received_9 : decode cX8_received 9 = .ok (.ireturn, 1) := by decide +kernel
theorem dX8_size_0 : decode cX8_size 0 = .ok (.aload_n 0, 1) := by decide +kernel
theorem dX8_size_1 : decode cX8_size 1 = .ok (.iconst 0, 1) := by decide +kernel
theorem dX8_size_2 : decode cX8_size 2 = .ok (.putfield 7, 3) := by decide +kernel
theorem dX8_size_5 : decode cX8_size 5 = .ok (.iload_n 1, 1) := by decide +kernel
theorem dX8_size_6 : decode cX8_size 6 = .ok (.ifCond .lt 11, 3) := by decide +kernel
theorem dX8_size_9 : decode cX8_size 9 = .ok (.iload_n 1, 1) := by decide +kernel
theorem dX8_size_10 : decode cX8_size 10 = .ok (.aload_n 0, 1) := by decide +kernel
theorem dX8_size_11 : decode cX8_size 11 = .ok (.getfield 112, 3) := by decide +kernel
theorem dX8_size_14 : decode cX8_size 14 = .ok (.if_icmp .lt 7, 3) := by decide +kernel
theorem dX8_size_17 : decode cX8_size 17 = .ok (.iconst (-1), 1) := by decide +kernel
theorem dX8_size_18 : decode cX8_size 18 = .ok (.goto 9, 3) := by decide +kernel
theorem dX8_size_21 : decode cX8_size 21 = .ok (.aload_n 0, 1) := by decide +kernel
theorem dX8_size_22 : decode cX8_size 22 = .ok (.getfield 124, 3) := by decide +kernel
theorem dX8_size_25 : decode cX8_size 25 = .ok (.iload_n 1, 1) := by decide +kernel
theorem dX8_size_26 : decode cX8_size 26 = .ok (.iaload, 1) := by decide +kernel
theorem dX8_size_27 : decode cX8_size 27 = .ok (.ireturn, 1) := by decide +kernel
theorem dX8_byteAt_0 : decode cX8_byteAt 0 = .ok (.aload_n 0, 1) := by decide +kernel
theorem dX8_byteAt_1 : decode cX8_byteAt 1 = .ok (.iconst 0, 1) := by decide +kernel
theorem dX8_byteAt_2 : decode cX8_byteAt 2 = .ok (.putfield 7, 3) := by decide +kernel
theorem dX8_byteAt_5 : decode cX8_byteAt 5 = .ok (.iload_n 1, 1) := by decide +kernel
theorem dX8_byteAt_6 : decode cX8_byteAt 6 = .ok (.ifCond .lt 25, 3) := by decide +kernel
theorem dX8_byteAt_9 : decode cX8_byteAt 9 = .ok (.iload_n 1, 1) := by decide +kernel
theorem dX8_byteAt_10 : decode cX8_byteAt 10 = .ok (.aload_n 0, 1) := by decide +kernel
theorem dX8_byteAt_11 : decode cX8_byteAt 11 = .ok (.getfield 112, 3) := by decide +kernel
theorem dX8_byteAt_14 : decode cX8_byteAt 14 = .ok (.if_icmp .ge 17, 3) := by decide +kernel
theorem dX8_byteAt_17 : decode cX8_byteAt 17 = .ok (.iload_n 2, 1) := by decide +kernel
theorem dX8_byteAt_18 : decode cX8_byteAt 18 = .ok (.ifCond .lt 13, 3) := by decide +kernel
theorem dX8_byteAt_21 : decode cX8_byteAt 21 = .ok (.iload_n 2, 1) := by decide +kernel
theorem dX8_byteAt_22 : decode cX8_byteAt 22 = .ok (.aload_n 0, 1) := by decide +kernel
theorem dX8_byteAt_23 : decode cX8_byteAt 23 = .ok (.getfield 124, 3) := by decide +kernel
theorem dX8_byteAt_26 : decode cX8_byteAt 26 = .ok (.iload_n 1, 1) := by decide +kernel
theorem dX8_byteAt_27 : decode cX8_byteAt 27 = .ok (.iaload, 1) := by decide +kernel
theorem dX8_byteAt_28 : decode cX8_byteAt 28 = .ok (.if_icmp .lt 10, 3) := by decide +kernel
theorem dX8_byteAt_31 : decode cX8_byteAt 31 = .ok (.aload_n 0, 1) := by decide +kernel
theorem dX8_byteAt_32 : decode cX8_byteAt 32 = .ok (.iconst 1, 1) := by decide +kernel
theorem dX8_byteAt_33 : decode cX8_byteAt 33 = .ok (.putfield 7, 3) := by decide +kernel
theorem dX8_byteAt_36 : decode cX8_byteAt 36 = .ok (.iconst 0, 1) := by decide +kernel
theorem dX8_byteAt_37 : decode cX8_byteAt 37 = .ok (.ireturn, 1) := by decide +kernel
theorem dX8_byteAt_38 : decode cX8_byteAt 38 = .ok (.aload_n 0, 1) := by decide +kernel
theorem dX8_byteAt_39 : decode cX8_byteAt 39 = .ok (.getfield 121, 3) := by decide +kernel
theorem dX8_byteAt_42 : decode cX8_byteAt 42 = .ok (.sipush 3500, 3) := by decide +kernel
theorem dX8_byteAt_45 : decode cX8_byteAt 45 = .ok (.iload_n 1, 1) := by decide +kernel
theorem dX8_byteAt_46 : decode cX8_byteAt 46 = .ok (.imul, 1) := by decide +kernel
theorem dX8_byteAt_47 : decode cX8_byteAt 47 = .ok (.iload_n 2, 1) := by decide +kernel
theorem dX8_byteAt_48 : decode cX8_byteAt 48 = .ok (.iadd, 1) := by decide +kernel
theorem dX8_byteAt_49 : decode cX8_byteAt 49 = .ok (.baload, 1) := by decide +kernel
theorem dX8_byteAt_50 : decode cX8_byteAt 50 = .ok (.sipush 255, 3) := by decide +kernel
theorem dX8_byteAt_53 : decode cX8_byteAt 53 = .ok (.iand, 1) := by decide +kernel
theorem dX8_byteAt_54 : decode cX8_byteAt 54 = .ok (.ireturn, 1) := by decide +kernel
theorem dX8_nameAt_0 : decode cX8_nameAt 0 = .ok (.aload_n 0, 1) := by decide +kernel
theorem dX8_nameAt_1 : decode cX8_nameAt 1 = .ok (.iconst 0, 1) := by decide +kernel
theorem dX8_nameAt_2 : decode cX8_nameAt 2 = .ok (.putfield 7, 3) := by decide +kernel
theorem dX8_nameAt_5 : decode cX8_nameAt 5 = .ok (.iload_n 1, 1) := by decide +kernel
theorem dX8_nameAt_6 : decode cX8_nameAt 6 = .ok (.ifCond .lt 25, 3) := by decide +kernel
theorem dX8_nameAt_9 : decode cX8_nameAt 9 = .ok (.iload_n 1, 1) := by decide +kernel
theorem dX8_nameAt_10 : decode cX8_nameAt 10 = .ok (.aload_n 0, 1) := by decide +kernel
theorem dX8_nameAt_11 : decode cX8_nameAt 11 = .ok (.getfield 112, 3) := by decide +kernel
theorem dX8_nameAt_14 : decode cX8_nameAt 14 = .ok (.if_icmp .ge 17, 3) := by decide +kernel
theorem dX8_nameAt_17 : decode cX8_nameAt 17 = .ok (.iload_n 2, 1) := by decide +kernel
theorem dX8_nameAt_18 : decode cX8_nameAt 18 = .ok (.ifCond .lt 13, 3) := by decide +kernel
theorem dX8_nameAt_21 : decode cX8_nameAt 21 = .ok (.iload_n 2, 1) := by decide +kernel
theorem dX8_nameAt_22 : decode cX8_nameAt 22 = .ok (.aload_n 0, 1) := by decide +kernel
theorem dX8_nameAt_23 : decode cX8_nameAt 23 = .ok (.getfield 118, 3) := by decide +kernel
theorem dX8_nameAt_26 : decode cX8_nameAt 26 = .ok (.iload_n 1, 1) := by decide +kernel
theorem dX8_nameAt_27 : decode cX8_nameAt 27 = .ok (.iaload, 1) := by decide +kernel
theorem dX8_nameAt_28 : decode cX8_nameAt 28 = .ok (.if_icmp .lt 5, 3) := by decide +kernel
theorem dX8_nameAt_31 : decode cX8_nameAt 31 = .ok (.iconst (-1), 1) := by decide +kernel
theorem dX8_nameAt_32 : decode cX8_nameAt 32 = .ok (.ireturn, 1) := by decide +kernel
theorem dX8_nameAt_33 : decode cX8_nameAt 33 = .ok (.aload_n 0, 1) := by decide +kernel
theorem dX8_nameAt_34 : decode cX8_nameAt 34 = .ok (.getfield 115, 3) := by decide +kernel
theorem dX8_nameAt_37 : decode cX8_nameAt 37 = .ok (.bipush 12, 2) := by decide +kernel
theorem dX8_nameAt_39 : decode cX8_nameAt 39 = .ok (.iload_n 1, 1) := by decide +kernel
theorem dX8_nameAt_40 : decode cX8_nameAt 40 = .ok (.imul, 1) := by decide +kernel
theorem dX8_nameAt_41 : decode cX8_nameAt 41 = .ok (.iload_n 2, 1) := by decide +kernel
theorem dX8_nameAt_42 : decode cX8_nameAt 42 = .ok (.iadd, 1) := by decide +kernel
theorem dX8_nameAt_43 : decode cX8_nameAt 43 = .ok (.baload, 1) := by decide +kernel
theorem dX8_nameAt_44 : decode cX8_nameAt 44 = .ok (.sipush 255, 3) := by decide +kernel
theorem dX8_nameAt_47 : decode cX8_nameAt 47 = .ok (.iand, 1) := by decide +kernel
theorem dX8_nameAt_48 : decode cX8_nameAt 48 = .ok (.ireturn, 1) := by decide +kernel
theorem dJ9_floorMod_7cf53_0 : decode cJ9_floorMod_7cf53 0 = .ok (.iload_n 0, 1) := by decide +kernel
theorem dJ9_floorMod_7cf53_1 : decode cJ9_floorMod_7cf53 1 = .ok (.iload_n 1, 1) := by decide +kernel
theorem dJ9_floorMod_7cf53_2 : decode cJ9_floorMod_7cf53 2 = .ok (.irem, 1) := by decide +kernel
theorem dJ9_floorMod_7cf53_3 : decode cJ9_floorMod_7cf53 3 = .ok (.istore_n 2, 1) := by decide +kernel
theorem dJ9_floorMod_7cf53_4 : decode cJ9_floorMod_7cf53 4 = .ok (.iload_n 0, 1) := by decide +kernel
theorem dJ9_floorMod_7cf53_5 : decode cJ9_floorMod_7cf53 5 = .ok (.iload_n 1, 1) := by decide +kernel
theorem dJ9_floorMod_7cf53_6 : decode cJ9_floorMod_7cf53 6 = .ok (.ixor, 1) := by decide +kernel
theorem dJ9_floorMod_7cf53_7 : decode cJ9_floorMod_7cf53 7 = .ok (.ifCond .ge 11, 3) := by decide +kernel
theorem dJ9_floorMod_7cf53_10 : decode cJ9_floorMod_7cf53 10 = .ok (.iload_n 2, 1) := by decide +kernel
theorem dJ9_floorMod_7cf53_11 : decode cJ9_floorMod_7cf53 11 = .ok (.ifCond .eq 7, 3) := by decide +kernel
theorem dJ9_floorMod_7cf53_14 : decode cJ9_floorMod_7cf53 14 = .ok (.iload_n 2, 1) := by decide +kernel
theorem dJ9_floorMod_7cf53_15 : decode cJ9_floorMod_7cf53 15 = .ok (.iload_n 1, 1) := by decide +kernel
theorem dJ9_floorMod_7cf53_16 : decode cJ9_floorMod_7cf53 16 = .ok (.iadd, 1) := by decide +kernel
theorem dJ9_floorMod_7cf53_17 : decode cJ9_floorMod_7cf53 17 = .ok (.ireturn, 1) := by decide +kernel
theorem dJ9_floorMod_7cf53_18 : decode cJ9_floorMod_7cf53 18 = .ok (.iload_n 2, 1) := by decide +kernel
theorem dJ9_floorMod_7cf53_19 : decode cJ9_floorMod_7cf53 19 = .ok (.ireturn, 1) := by decide +kernel
theorem dJ9_min_7cf53_0 : decode cJ9_min_7cf53 0 = .ok (.iload_n 0, 1) := by decide +kernel
theorem dJ9_min_7cf53_1 : decode cJ9_min_7cf53 1 = .ok (.iload_n 1, 1) := by decide +kernel
theorem dJ9_min_7cf53_2 : decode cJ9_min_7cf53 2 = .ok (.if_icmp .gt 7, 3) := by decide +kernel
theorem dJ9_min_7cf53_5 : decode cJ9_min_7cf53 5 = .ok (.iload_n 0, 1) := by decide +kernel
theorem dJ9_min_7cf53_6 : decode cJ9_min_7cf53 6 = .ok (.goto 4, 3) := by decide +kernel
theorem dJ9_min_7cf53_9 : decode cJ9_min_7cf53 9 = .ok (.iload_n 1, 1) := by decide +kernel
theorem dJ9_min_7cf53_10 : decode cJ9_min_7cf53 10 = .ok (.ireturn, 1) := by decide +kernel
set_option maxRecDepth 20000 in
theorem ggL_lineAt_X7_lineAt : GoodIn wsL_lineAt wsX7_lineAt := goodIn_ca (goodIn_r _ [6, 7, 8, 9, 10, 11, 12, 13, 14, 15, 16, 17, 18, 19, 20, 21, 22, 23, 24, 25, 26, 27] (by decide +kernel) (by decide +kernel)) (goodIn_sub (fun _ h => List.mem_cons_of_mem _ (List.mem_append_right _ h)) (by decide +kernel))
set_option maxRecDepth 20000 in
theorem gL_lineAt_X7_lineAt : GoodIn wsL_lineAt (wsV RL 7 RX7 yX7_lineAt wsX7_lineAt) := goodIn_app (goodIn_of _ (by decide +kernel)) ggL_lineAt_X7_lineAt
theorem dL_lineAt_0 : decode cL_lineAt 0 = .ok (.aload_n 2, 1) := by decide +kernel
theorem dL_lineAt_1 : decode cL_lineAt 1 = .ok (.iconst 0, 1) := by decide +kernel
theorem dL_lineAt_2 : decode cL_lineAt 2 = .ok (.aload_n 0, 1) := by decide +kernel
theorem dL_lineAt_3 : decode cL_lineAt 3 = .ok (.iload_n 1, 1) := by decide +kernel
theorem dL_lineAt_4 : decode cL_lineAt 4 = .ok (.invokevirtual 7, 3) := by decide +kernel
theorem dL_lineAt_7 : decode cL_lineAt 7 = .ok (.i2l, 1) := by decide +kernel
theorem dL_lineAt_8 : decode cL_lineAt 8 = .ok (.lastore, 1) := by decide +kernel
theorem dL_lineAt_9 : decode cL_lineAt 9 = .ok (.goto 6, 3) := by decide +kernel
theorem dL_lineAt_12 : decode cL_lineAt 12 = .ok (.astore_n 3, 1) := by decide +kernel
theorem dL_lineAt_13 : decode cL_lineAt 13 = .ok (.iconst 1, 1) := by decide +kernel
theorem dL_lineAt_14 : decode cL_lineAt 14 = .ok (.ireturn, 1) := by decide +kernel
theorem dL_lineAt_15 : decode cL_lineAt 15 = .ok (.iconst 0, 1) := by decide +kernel
theorem dL_lineAt_16 : decode cL_lineAt 16 = .ok (.ireturn, 1) := by decide +kernel
set_option maxRecDepth 20000 in
theorem ggL_byteAt_X7_byteAt : GoodIn wsL_byteAt wsX7_byteAt := goodIn_ca (goodIn_r _ [6, 7, 8, 9, 10, 11, 12, 13, 14, 15, 16, 17, 18, 19, 20, 21, 22, 23, 24, 25, 26, 27, 28, 29, 30, 31, 32, 33, 34, 35, 36, 37, 38, 39, 40, 41, 42, 43] (by decide +kernel) (by decide +kernel)) (goodIn_sub (fun _ h => List.mem_cons_of_mem _ (List.mem_append_right _ h)) (by decide +kernel))
set_option maxRecDepth 20000 in
theorem gL_byteAt_X7_byteAt : GoodIn wsL_byteAt (wsV RL 15 RX7 yX7_byteAt wsX7_byteAt) := goodIn_app (goodIn_of _ (by decide +kernel)) ggL_byteAt_X7_byteAt
theorem dL_byteAt_0 : decode cL_byteAt 0 = .ok (.aload_n 3, 1) := by decide +kernel
theorem dL_byteAt_1 : decode cL_byteAt 1 = .ok (.iconst 0, 1) := by decide +kernel
theorem dL_byteAt_2 : decode cL_byteAt 2 = .ok (.aload_n 0, 1) := by decide +kernel
theorem dL_byteAt_3 : decode cL_byteAt 3 = .ok (.iload_n 1, 1) := by decide +kernel
theorem dL_byteAt_4 : decode cL_byteAt 4 = .ok (.iload_n 2, 1) := by decide +kernel
theorem dL_byteAt_5 : decode cL_byteAt 5 = .ok (.invokevirtual 15, 3) := by decide +kernel
theorem dL_byteAt_8 : decode cL_byteAt 8 = .ok (.i2l, 1) := by decide +kernel
theorem dL_byteAt_9 : decode cL_byteAt 9 = .ok (.lastore, 1) := by decide +kernel
theorem dL_byteAt_10 : decode cL_byteAt 10 = .ok (.goto 7, 3) := by decide +kernel
theorem dL_byteAt_13 : decode cL_byteAt 13 = .ok (.astore 4, 2) := by decide +kernel
theorem dL_byteAt_15 : decode cL_byteAt 15 = .ok (.iconst 1, 1) := by decide +kernel
theorem dL_byteAt_16 : decode cL_byteAt 16 = .ok (.ireturn, 1) := by decide +kernel
theorem dL_byteAt_17 : decode cL_byteAt 17 = .ok (.iconst 0, 1) := by decide +kernel
theorem dL_byteAt_18 : decode cL_byteAt 18 = .ok (.ireturn, 1) := by decide +kernel
set_option maxRecDepth 20000 in
theorem ggL_law_X7_init : GoodIn wsL_law wsX7_init := goodIn_r _ [9, 10, 11, 12, 13, 14, 15, 16, 17, 18, 19, 20, 21, 22, 23, 24, 25, 26, 27, 28, 29, 30, 31, 32, 33, 34, 35, 36, 37, 38, 39, 40, 41, 42, 43, 44, 45, 46, 47, 48, 49, 50, 51, 52, 53, 54, 55, 56, 57, 58, 59, 60, 61, 62, 63, 64, 649, 650, 601, 602, 603, 604, 605, 606, 607, 608, 609, 651, 652, 653, 654, 655, 656, 657, 658, 659, 660, 661, 662, 663, 664, 665, 666, 667, 668, 669, 670, 671, 672, 673, 674, 675, 676, 677] (by decide +kernel) (by decide +kernel)
set_option maxRecDepth 20000 in
theorem gL_law_X7_init : GoodIn wsL_law (wsX7_init) := ggL_law_X7_init
set_option maxRecDepth 20000 in
theorem ggL_law_X8_init : GoodIn wsL_law wsX8_init := goodIn_r _ [67, 68, 11, 12, 69, 55, 70, 32, 71, 72, 73, 74, 75, 76, 77, 78, 79, 80, 81, 82, 83, 84, 85, 86, 87, 88, 89, 90, 91, 92, 93, 94, 95, 96, 97, 98, 99, 100, 101, 102, 103, 104, 105, 106, 107, 108, 109, 610, 611, 612, 613, 614, 615, 616, 617, 618, 619, 620, 621, 622, 623, 624, 625, 626, 627, 628, 629, 630, 631, 632, 633, 634, 635, 636, 637, 638, 639, 640, 641, 642, 643, 644, 645, 646, 647, 648] (by decide +kernel) (by decide +kernel)
set_option maxRecDepth 20000 in
theorem gL_law_X8_init : GoodIn wsL_law (wsX8_init) := ggL_law_X8_init
set_option maxRecDepth 20000 in
theorem ggL_law_X7_feed : GoodIn wsL_law wsX7_feed := goodIn_r _ [113, 16, 114, 115, 116, 117, 15, 118, 119, 33, 601, 602, 603, 604, 605, 606, 607, 608, 609, 649, 650] (by decide +kernel) (by decide +kernel)
set_option maxRecDepth 20000 in
theorem gL_law_X7_feed : GoodIn wsL_law (wsV RL 23 RX7 yX7_feed wsX7_feed) := goodIn_app (goodIn_of _ (by decide +kernel)) ggL_law_X7_feed
set_option maxRecDepth 20000 in
theorem ggL_law_X8_feed : GoodIn wsL_law wsX8_feed := goodIn_r _ [123, 69, 72, 71, 610, 611, 612, 613, 614, 615, 616, 617, 618, 619, 620, 621, 622, 623, 624, 625, 626, 627, 628, 629, 630, 631, 632, 633, 634, 635, 636, 637, 638, 639, 640, 641, 642, 643, 644, 645, 646, 647, 648] (by decide +kernel) (by decide +kernel)
set_option maxRecDepth 20000 in
theorem gL_law_X8_feed : GoodIn wsL_law (wsV RL 27 RX8 yX8_feed wsX8_feed) := goodIn_app (goodIn_of _ (by decide +kernel)) ggL_law_X8_feed
set_option maxRecDepth 20000 in
theorem ggL_law_X7_end : GoodIn wsL_law wsX7_end := goodIn_r _ [127, 16, 114, 601, 602, 603, 604, 605, 606, 607, 608, 609, 649, 650] (by decide +kernel) (by decide +kernel)
set_option maxRecDepth 20000 in
theorem gL_law_X7_end : GoodIn wsL_law (wsV RL 28 RX7 yX7_end wsX7_end) := goodIn_app (goodIn_of _ (by decide +kernel)) ggL_law_X7_end
set_option maxRecDepth 20000 in
theorem ggL_law_X8_end : GoodIn wsL_law wsX8_end := goodIn_r _ [131, 69, 72, 610, 611, 612, 613, 614, 615, 616, 617, 618, 619, 620, 621, 622, 623, 624, 625, 626, 627, 628, 629, 630, 631, 632, 633, 634, 635, 636, 637, 638, 639, 640, 641, 642, 643, 644, 645, 646, 647, 648] (by decide +kernel) (by decide +kernel)
set_option maxRecDepth 20000 in
theorem gL_law_X8_end : GoodIn wsL_law (wsV RL 32 RX8 yX8_end wsX8_end) := goodIn_app (goodIn_of _ (by decide +kernel)) ggL_law_X8_end
set_option maxRecDepth 20000 in
theorem ggL_law_X7_file : GoodIn wsL_law wsX7_file := goodIn_r _ [135, 16, 114, 24, 136, 137, 138, 139, 140, 141, 15, 142, 119, 33, 143, 144, 145, 2, 146, 147, 148, 149, 150, 20, 151, 152, 153, 154, 42, 155, 156, 57, 58, 56, 157, 158, 159, 160, 54, 161, 162, 163, 164, 165, 166, 167, 168, 59, 601, 602, 603, 604, 605, 606, 607, 608, 609, 649, 650, 653, 654, 655, 656, 657, 658, 659, 660, 661, 662, 672, 673, 674, 675, 676, 677, 651, 652] (by decide +kernel) (by decide +kernel)
set_option maxRecDepth 20000 in
theorem gL_law_X7_file : GoodIn wsL_law (wsV RL 33 RX7 yX7_file wsX7_file) := goodIn_app (goodIn_of _ (by decide +kernel)) ggL_law_X7_file
set_option maxRecDepth 20000 in
theorem ggL_law_X8_file : GoodIn wsL_law wsX8_file := goodIn_r _ [172, 69, 72, 71, 73, 84, 74, 75, 77, 76, 610, 611, 612, 613, 614, 615, 616, 617, 618, 619, 620, 621, 622, 623, 624, 625, 626, 627, 628, 629, 630, 631, 632, 633, 634, 635, 636, 637, 638, 639, 640, 641, 642, 643, 644, 645, 646, 647, 648] (by decide +kernel) (by decide +kernel)
set_option maxRecDepth 20000 in
theorem gL_law_X8_file : GoodIn wsL_law (wsV RL 37 RX8 yX8_file wsX8_file) := goodIn_app (goodIn_of _ (by decide +kernel)) ggL_law_X8_file
set_option maxRecDepth 20000 in
theorem ggL_law_X7_made : GoodIn wsL_law wsX7_made := goodIn_r _ [176, 24, 136, 138, 143, 144, 145, 2, 146, 147, 148, 149, 150, 20, 151, 152, 153, 154, 42, 155, 156, 57, 58, 56, 177, 178, 179, 180, 54, 181, 182, 183, 184, 59, 601, 602, 603, 604, 605, 606, 607, 608, 609, 653, 654, 655, 656, 657, 658, 659, 660, 661, 662, 672, 673, 674, 675, 676, 677, 651, 652] (by decide +kernel) (by decide +kernel)
set_option maxRecDepth 20000 in
theorem gL_law_X7_made : GoodIn wsL_law (wsV RL 38 RX7 yX7_made wsX7_made) := goodIn_app (goodIn_of _ (by decide +kernel)) ggL_law_X7_made
set_option maxRecDepth 20000 in
theorem ggL_law_X8_made : GoodIn wsL_law wsX8_made := goodIn_r _ [188, 69, 73, 84, 74, 75, 77, 76, 610, 611, 612, 613, 614, 615, 616, 617, 618, 619, 620, 621, 622, 623, 624, 625, 626, 627, 628, 629, 630, 631, 632, 633, 634, 635, 636, 637, 638, 639, 640, 641, 642, 643, 644, 645, 646, 647, 648] (by decide +kernel) (by decide +kernel)
set_option maxRecDepth 20000 in
theorem gL_law_X8_made : GoodIn wsL_law (wsV RL 41 RX8 yX8_made wsX8_made) := goodIn_app (goodIn_of _ (by decide +kernel)) ggL_law_X8_made
set_option maxRecDepth 20000 in
theorem ggL_law_X7_clear : GoodIn wsL_law wsX7_clear := goodIn_r _ [192, 24, 136, 138, 147, 148, 149, 2, 150, 20, 151, 601, 602, 603, 604, 605, 606, 607, 608, 609, 653, 654, 655, 656, 657, 658, 659, 660, 661, 662, 672, 673, 674, 675, 676, 677, 651, 652] (by decide +kernel) (by decide +kernel)
set_option maxRecDepth 20000 in
theorem gL_law_X7_clear : GoodIn wsL_law (wsV RL 42 RX7 yX7_clear wsX7_clear) := goodIn_app (goodIn_of _ (by decide +kernel)) ggL_law_X7_clear
set_option maxRecDepth 20000 in
theorem ggL_law_X8_clear : GoodIn wsL_law wsX8_clear := goodIn_r _ [196, 69, 84, 73, 610, 611, 612, 613, 614, 615, 616, 617, 618, 619, 620, 621, 622, 623, 624, 625, 626, 627, 628, 629, 630, 631, 632, 633, 634, 635, 636, 637, 638, 639, 640, 641, 642, 643, 644, 645, 646, 647, 648] (by decide +kernel) (by decide +kernel)
set_option maxRecDepth 20000 in
theorem gL_law_X8_clear : GoodIn wsL_law (wsV RL 46 RX8 yX8_clear wsX8_clear) := goodIn_app (goodIn_of _ (by decide +kernel)) ggL_law_X8_clear
set_option maxRecDepth 20000 in
theorem ggL_law_X7_begin : GoodIn wsL_law wsX7_begin := goodIn_r _ [200, 24, 136, 138, 28, 20, 201, 202, 203, 204, 205, 23, 206, 207, 208, 44, 45, 209, 210, 211, 212, 47, 213, 214, 215, 216, 217, 218, 219, 220, 43, 221, 222, 223, 224, 225, 226, 227, 228, 229, 230, 231, 232, 42, 233, 156, 234, 235, 236, 27, 237, 63, 238, 239, 240, 241, 242, 243, 244, 245, 246, 247, 248, 249, 250, 153, 154, 155, 57, 58, 56, 251, 252, 253, 254, 255, 256, 2, 257, 258, 259, 260, 19, 261, 37, 262, 601, 602, 603, 604, 605, 606, 607, 608, 609, 653, 654, 655, 656, 657, 658, 659, 660, 661, 662, 672, 673, 674, 675, 676, 677, 663, 664, 665, 666, 667, 668, 669, 670, 671, 651, 652] (by decide +kernel) (by decide +kernel)
set_option maxRecDepth 20000 in
theorem gL_law_X7_begin : GoodIn wsL_law (wsV RL 47 RX7 yX7_begin wsX7_begin) := goodIn_app (goodIn_of _ (by decide +kernel)) ggL_law_X7_begin
set_option maxRecDepth 20000 in
theorem ggL_law_X8_begin : GoodIn wsL_law wsX8_begin := goodIn_r _ [266, 69, 73, 86, 84, 85, 93, 94, 95, 96, 97, 99, 98, 100, 101, 102, 104, 106, 107, 89, 267, 268, 269, 5, 270, 78, 77, 271, 272, 273, 274, 79, 80, 81, 82, 83, 275, 276, 277, 278, 279, 280, 281, 282, 87, 88, 610, 611, 612, 613, 614, 615, 616, 617, 618, 619, 620, 621, 622, 623, 624, 625, 626, 627, 628, 629, 630, 631, 632, 633, 634, 635, 636, 637, 638, 639, 640, 641, 642, 643, 644, 645, 646, 647, 648] (by decide +kernel) (by decide +kernel)
set_option maxRecDepth 20000 in
theorem gL_law_X8_begin : GoodIn wsL_law (wsV RL 50 RX8 yX8_begin wsX8_begin) := goodIn_app (goodIn_of _ (by decide +kernel)) ggL_law_X8_begin
set_option maxRecDepth 20000 in
theorem ggL_law_X7_spoil : GoodIn wsL_law wsX7_spoil := goodIn_r _ [286, 287, 288, 289, 601, 602, 603, 604, 605, 606, 607, 608, 609] (by decide +kernel) (by decide +kernel)
set_option maxRecDepth 20000 in
theorem gL_law_X7_spoil : GoodIn wsL_law (wsV RL 51 RX7 yX7_spoil wsX7_spoil) := goodIn_app (goodIn_of _ (by decide +kernel)) ggL_law_X7_spoil
set_option maxRecDepth 20000 in
theorem ggL_law_X8_spoil : GoodIn wsL_law wsX8_spoil := goodIn_r _ [293, 69, 90, 91, 92, 610, 611, 612, 613, 614, 615, 616, 617, 618, 619, 620, 621, 622, 623, 624, 625, 626, 627, 628, 629, 630, 631, 632, 633, 634, 635, 636, 637, 638, 639, 640, 641, 642, 643, 644, 645, 646, 647, 648] (by decide +kernel) (by decide +kernel)
set_option maxRecDepth 20000 in
theorem gL_law_X8_spoil : GoodIn wsL_law (wsV RL 55 RX8 yX8_spoil wsX8_spoil) := goodIn_app (goodIn_of _ (by decide +kernel)) ggL_law_X8_spoil
set_option maxRecDepth 20000 in
theorem ggL_law_X7_step : GoodIn wsL_law wsX7_step := goodIn_r _ [297, 201, 24, 20, 28, 147, 148, 149, 2, 150, 151, 298, 299, 300, 301, 287, 289, 288, 302, 303, 304, 19, 305, 262, 306, 307, 308, 309, 37, 310, 311, 312, 313, 314, 315, 316, 317, 47, 318, 215, 319, 320, 321, 322, 323, 324, 325, 326, 327, 328, 329, 330, 331, 27, 332, 333, 334, 239, 335, 336, 337, 338, 339, 340, 341, 342, 343, 344, 345, 346, 347, 348, 349, 350, 351, 352, 353, 354, 355, 248, 240, 249, 356, 357, 358, 359, 360, 361, 362, 63, 363, 364, 365, 366, 367, 250, 153, 154, 42, 155, 156, 57, 58, 56, 368, 158, 159, 160, 54, 161, 162, 163, 164, 369, 370, 371, 251, 252, 253, 254, 372, 373, 374, 375, 376, 377, 166, 167, 168, 59, 378, 379, 380, 381, 382, 383, 384, 259, 260, 261, 385, 386, 387, 388, 389, 390, 391, 392, 393, 394, 395, 396, 397, 398, 399, 400, 401, 402, 403, 244, 245, 246, 247, 404, 405, 406, 407, 408, 216, 409, 410, 411, 412, 256, 257, 413, 414, 23, 415, 207, 416, 417, 418, 419, 420, 421, 422, 423, 424, 221, 222, 45, 44, 228, 425, 426, 427, 428, 429, 43, 208, 430, 431, 432, 433, 226, 434, 435, 436, 437, 230, 231, 232, 233, 438, 439, 440, 441, 442, 443, 444, 445, 446, 447, 448, 223, 449, 225, 227, 450, 451, 452, 453, 454, 455, 456, 457, 458, 459, 460, 461, 462, 217, 218, 219, 220, 224, 229, 463, 464, 465, 466, 467, 468, 469, 470, 471, 472, 473, 474, 475, 476, 477, 601, 602, 603, 604, 605, 606, 607, 608, 609, 651, 652, 663, 664, 665, 666, 667, 668, 669, 670, 671, 653, 654, 655, 656, 657, 658, 659, 660, 661, 662, 672, 673, 674, 675, 676, 677] (by decide +kernel) (by decide +kernel)
set_option maxRecDepth 20000 in
theorem gL_law_X7_step : GoodIn wsL_law (wsV RL 56 RX7 yX7_step wsX7_step) := goodIn_app (goodIn_of _ (by decide +kernel)) ggL_law_X7_step
set_option maxRecDepth 20000 in
theorem ggL_law_X8_step : GoodIn wsL_law wsX8_step := goodIn_r _ [481, 69, 84, 90, 92, 91, 88, 87, 89, 482, 483, 484, 5, 485, 93, 95, 94, 78, 275, 276, 277, 278, 86, 486, 487, 488, 489, 279, 280, 281, 282, 490, 491, 492, 493, 79, 82, 80, 83, 81, 77, 76, 75, 74, 494, 495, 496, 497, 109, 70, 498, 499, 500, 501, 96, 97, 98, 100, 101, 99, 502, 503, 504, 505, 102, 106, 107, 506, 507, 508, 509, 510, 511, 512, 513, 514, 515, 516, 517, 104, 103, 518, 519, 520, 521, 105, 610, 611, 612, 613, 614, 615, 616, 617, 618, 619, 620, 621, 622, 623, 624, 625, 626, 627, 628, 629, 630, 631, 632, 633, 634, 635, 636, 637, 638, 639, 640, 641, 642, 643, 644, 645, 646, 647, 648] (by decide +kernel) (by decide +kernel)
set_option maxRecDepth 20000 in
theorem gL_law_X8_step : GoodIn wsL_law (wsV RL 59 RX8 yX8_step wsX8_step) := goodIn_app (goodIn_of _ (by decide +kernel)) ggL_law_X8_step
set_option maxRecDepth 20000 in
theorem ggL_law_X7_line : GoodIn wsL_law wsX7_line := goodIn_r _ [525, 20, 151, 601, 602, 603, 604, 605, 606, 607, 608, 609, 651, 652] (by decide +kernel) (by decide +kernel)
set_option maxRecDepth 20000 in
theorem gL_law_X7_line : GoodIn wsL_law (wsV RL 60 RX7 yX7_line wsX7_line) := goodIn_app (goodIn_of _ (by decide +kernel)) ggL_law_X7_line
set_option maxRecDepth 20000 in
theorem ggL_law_X8_line : GoodIn wsL_law wsX8_line := goodIn_r _ [529, 69, 84, 88, 610, 611, 612, 613, 614, 615, 616, 617, 618, 619, 620, 621, 622, 623, 624, 625, 626, 627, 628, 629, 630, 631, 632, 633, 634, 635, 636, 637, 638, 639, 640, 641, 642, 643, 644, 645, 646, 647, 648] (by decide +kernel) (by decide +kernel)
set_option maxRecDepth 20000 in
theorem gL_law_X8_line : GoodIn wsL_law (wsV RL 63 RX8 yX8_line wsX8_line) := goodIn_app (goodIn_of _ (by decide +kernel)) ggL_law_X8_line
set_option maxRecDepth 20000 in
theorem ggL_law_L_lineAt : GoodIn wsL_law wsL_lineAt := goodIn_ca (goodIn_r _ [533, 534, 535, 536, 537, 2, 538, 539, 540, 20, 151, 477, 325, 326, 19, 327, 37, 601, 602, 603, 604, 605, 606, 607, 608, 609, 651, 652] (by decide +kernel) (by decide +kernel)) (goodIn_sub (fun _ h => List.mem_append_right _ h) (by decide +kernel))
set_option maxRecDepth 20000 in
theorem gL_law_L_lineAt : GoodIn wsL_law (va_wsS RL 64 yL_lineAt wsL_lineAt) := goodIn_app (goodIn_of _ (by decide +kernel)) ggL_law_L_lineAt
set_option maxRecDepth 20000 in
theorem ggL_law_X8_lineAt : GoodIn wsL_law wsX8_lineAt := goodIn_r _ [544, 69, 84, 88, 87, 610, 611, 612, 613, 614, 615, 616, 617, 618, 619, 620, 621, 622, 623, 624, 625, 626, 627, 628, 629, 630, 631, 632, 633, 634, 635, 636, 637, 638, 639, 640, 641, 642, 643, 644, 645, 646, 647, 648] (by decide +kernel) (by decide +kernel)
set_option maxRecDepth 20000 in
theorem gL_law_X8_lineAt : GoodIn wsL_law (wsV RL 69 RX8 yX8_lineAt wsX8_lineAt) := goodIn_app (goodIn_of _ (by decide +kernel)) ggL_law_X8_lineAt
set_option maxRecDepth 20000 in
theorem ggL_law_X8_thrown : GoodIn wsL_law wsX8_thrown := goodIn_r _ [548, 69, 610, 611, 612, 613, 614, 615, 616, 617, 618, 619, 620, 621, 622, 623, 624, 625, 626, 627, 628, 629, 630, 631, 632, 633, 634, 635, 636, 637, 638, 639, 640, 641, 642, 643, 644, 645, 646, 647, 648] (by decide +kernel) (by decide +kernel)
set_option maxRecDepth 20000 in
theorem gL_law_X8_thrown : GoodIn wsL_law (wsV RL 70 RX8 yX8_thrown wsX8_thrown) := goodIn_app (goodIn_of _ (by decide +kernel)) ggL_law_X8_thrown
set_option maxRecDepth 20000 in
theorem ggL_law_X7_state : GoodIn wsL_law wsX7_state := goodIn_r _ [552, 202, 24, 553, 222, 28, 554, 362, 601, 602, 603, 604, 605, 606, 607, 608, 609, 663, 664, 665, 666, 667, 668, 669, 670, 671, 653, 654, 655, 656, 657, 658, 659, 660, 661, 662] (by decide +kernel) (by decide +kernel)
set_option maxRecDepth 20000 in
theorem gL_law_X7_state : GoodIn wsL_law (wsV RL 73 RX7 yX7_state wsX7_state) := goodIn_app (goodIn_of _ (by decide +kernel)) ggL_law_X7_state
set_option maxRecDepth 20000 in
theorem ggL_law_X8_state : GoodIn wsL_law wsX8_state := goodIn_r _ [558, 69, 85, 93, 96, 610, 611, 612, 613, 614, 615, 616, 617, 618, 619, 620, 621, 622, 623, 624, 625, 626, 627, 628, 629, 630, 631, 632, 633, 634, 635, 636, 637, 638, 639, 640, 641, 642, 643, 644, 645, 646, 647, 648] (by decide +kernel) (by decide +kernel)
set_option maxRecDepth 20000 in
theorem gL_law_X8_state : GoodIn wsL_law (wsV RL 76 RX8 yX8_state wsX8_state) := goodIn_app (goodIn_of _ (by decide +kernel)) ggL_law_X8_state
set_option maxRecDepth 20000 in
theorem ggL_law_X7_received : GoodIn wsL_law wsX7_received := goodIn_r _ [562, 28, 563, 138, 601, 602, 603, 604, 605, 606, 607, 608, 609, 663, 664, 665, 666, 667, 668, 669, 670, 671, 672, 673, 674, 675, 676, 677] (by decide +kernel) (by decide +kernel)
set_option maxRecDepth 20000 in
theorem gL_law_X7_received : GoodIn wsL_law (wsV RL 77 RX7 yX7_received wsX7_received) := goodIn_app (goodIn_of _ (by decide +kernel)) ggL_law_X7_received
set_option maxRecDepth 20000 in
theorem ggL_law_X8_received : GoodIn wsL_law wsX8_received := goodIn_r _ [567, 69, 102, 610, 611, 612, 613, 614, 615, 616, 617, 618, 619, 620, 621, 622, 623, 624, 625, 626, 627, 628, 629, 630, 631, 632, 633, 634, 635, 636, 637, 638, 639, 640, 641, 642, 643, 644, 645, 646, 647, 648] (by decide +kernel) (by decide +kernel)
set_option maxRecDepth 20000 in
theorem gL_law_X8_received : GoodIn wsL_law (wsV RL 80 RX8 yX8_received wsX8_received) := goodIn_app (goodIn_of _ (by decide +kernel)) ggL_law_X8_received
set_option maxRecDepth 20000 in
theorem ggL_law_X7_size : GoodIn wsL_law wsX7_size := goodIn_r _ [571, 28, 563, 572, 573, 231, 232, 42, 233, 156, 601, 602, 603, 604, 605, 606, 607, 608, 609, 663, 664, 665, 666, 667, 668, 669, 670, 671, 672, 673, 674, 675, 676, 677] (by decide +kernel) (by decide +kernel)
set_option maxRecDepth 20000 in
theorem gL_law_X7_size : GoodIn wsL_law (wsV RL 81 RX7 yX7_size wsX7_size) := goodIn_app (goodIn_of _ (by decide +kernel)) ggL_law_X7_size
set_option maxRecDepth 20000 in
theorem ggL_law_X8_size : GoodIn wsL_law wsX8_size := goodIn_r _ [577, 69, 102, 106, 610, 611, 612, 613, 614, 615, 616, 617, 618, 619, 620, 621, 622, 623, 624, 625, 626, 627, 628, 629, 630, 631, 632, 633, 634, 635, 636, 637, 638, 639, 640, 641, 642, 643, 644, 645, 646, 647, 648] (by decide +kernel) (by decide +kernel)
set_option maxRecDepth 20000 in
theorem gL_law_X8_size : GoodIn wsL_law (wsV RL 84 RX8 yX8_size wsX8_size) := goodIn_app (goodIn_of _ (by decide +kernel)) ggL_law_X8_size
set_option maxRecDepth 20000 in
theorem ggL_law_L_byteAt : GoodIn wsL_law wsL_byteAt := goodIn_ca (goodIn_r _ [580, 534, 581, 582, 583, 2, 584, 539, 540, 28, 563, 572, 585, 586, 573, 231, 232, 42, 233, 156, 601, 602, 603, 604, 605, 606, 607, 608, 609, 663, 664, 665, 666, 667, 668, 669, 670, 671, 672, 673, 674, 675, 676, 677] (by decide +kernel) (by decide +kernel)) (goodIn_sub (fun _ h => List.mem_append_right _ h) (by decide +kernel))
set_option maxRecDepth 20000 in
theorem gL_law_L_byteAt : GoodIn wsL_law (va_wsS RL 85 yL_byteAt wsL_byteAt) := goodIn_app (goodIn_of _ (by decide +kernel)) ggL_law_L_byteAt
set_option maxRecDepth 20000 in
theorem ggL_law_X8_byteAt : GoodIn wsL_law wsX8_byteAt := goodIn_r _ [590, 69, 102, 106, 105, 610, 611, 612, 613, 614, 615, 616, 617, 618, 619, 620, 621, 622, 623, 624, 625, 626, 627, 628, 629, 630, 631, 632, 633, 634, 635, 636, 637, 638, 639, 640, 641, 642, 643, 644, 645, 646, 647, 648] (by decide +kernel) (by decide +kernel)
set_option maxRecDepth 20000 in
theorem gL_law_X8_byteAt : GoodIn wsL_law (wsV RL 88 RX8 yX8_byteAt wsX8_byteAt) := goodIn_app (goodIn_of _ (by decide +kernel)) ggL_law_X8_byteAt
set_option maxRecDepth 20000 in
theorem ggL_law_X7_nameAt : GoodIn wsL_law wsX7_nameAt := goodIn_r _ [594, 28, 563, 595, 596, 573, 231, 232, 42, 233, 156, 601, 602, 603, 604, 605, 606, 607, 608, 609, 663, 664, 665, 666, 667, 668, 669, 670, 671, 672, 673, 674, 675, 676, 677] (by decide +kernel) (by decide +kernel)
set_option maxRecDepth 20000 in
theorem gL_law_X7_nameAt : GoodIn wsL_law (wsV RL 89 RX7 yX7_nameAt wsX7_nameAt) := goodIn_app (goodIn_of _ (by decide +kernel)) ggL_law_X7_nameAt
set_option maxRecDepth 20000 in
theorem ggL_law_X8_nameAt : GoodIn wsL_law wsX8_nameAt := goodIn_r _ [600, 69, 102, 104, 103, 610, 611, 612, 613, 614, 615, 616, 617, 618, 619, 620, 621, 622, 623, 624, 625, 626, 627, 628, 629, 630, 631, 632, 633, 634, 635, 636, 637, 638, 639, 640, 641, 642, 643, 644, 645, 646, 647, 648] (by decide +kernel) (by decide +kernel)
set_option maxRecDepth 20000 in
theorem gL_law_X8_nameAt : GoodIn wsL_law (wsV RL 92 RX8 yX8_nameAt wsX8_nameAt) := goodIn_app (goodIn_of _ (by decide +kernel)) ggL_law_X8_nameAt
theorem dL_law_0 : decode cL_law 0 = .ok (.new 8, 3) := by decide +kernel
theorem dL_law_3 : decode cL_law 3 = .ok (.dup, 1) := by decide +kernel
theorem dL_law_4 : decode cL_law 4 = .ok (.invokespecial 19, 3) := by decide +kernel
theorem dL_law_7 : decode cL_law 7 = .ok (.astore_n 1, 1) := by decide +kernel
theorem dL_law_8 : decode cL_law 8 = .ok (.new 20, 3) := by decide +kernel
theorem dL_law_11 : decode cL_law 11 = .ok (.dup, 1) := by decide +kernel
theorem dL_law_12 : decode cL_law 12 = .ok (.invokespecial 22, 3) := by decide +kernel
theorem dL_law_15 : decode cL_law 15 = .ok (.astore_n 2, 1) := by decide +kernel
theorem dL_law_16 : decode cL_law 16 = .ok (.iconst 1, 1) := by decide +kernel
theorem dL_law_17 : decode cL_law 17 = .ok (.newarray .long, 2) := by decide +kernel
theorem dL_law_19 : decode cL_law 19 = .ok (.astore_n 3, 1) := by decide +kernel
theorem dL_law_20 : decode cL_law 20 = .ok (.iconst 0, 1) := by decide +kernel
theorem dL_law_21 : decode cL_law 21 = .ok (.istore 4, 2) := by decide +kernel
theorem dL_law_23 : decode cL_law 23 = .ok (.iload 4, 2) := by decide +kernel
theorem dL_law_25 : decode cL_law 25 = .ok (.aload_n 0, 1) := by decide +kernel
theorem dL_law_26 : decode cL_law 26 = .ok (.arraylength, 1) := by decide +kernel
theorem dL_law_27 : decode cL_law 27 = .ok (.bipush 6, 2) := by decide +kernel
theorem dL_law_29 : decode cL_law 29 = .ok (.isub, 1) := by decide +kernel
theorem dL_law_30 : decode cL_law 30 = .ok (.if_icmp .gt 563, 3) := by decide +kernel
theorem dL_law_33 : decode cL_law 33 = .ok (.aload_n 0, 1) := by decide +kernel
theorem dL_law_34 : decode cL_law 34 = .ok (.iload 4, 2) := by decide +kernel
theorem dL_law_36 : decode cL_law 36 = .ok (.iaload, 1) := by decide +kernel
theorem dL_law_37 : decode cL_law 37 = .ok (.bipush 15, 2) := by decide +kernel
theorem dL_law_39 : decode cL_law 39 = .ok (.iand, 1) := by decide +kernel
theorem dL_law_40 : decode cL_law 40 = .ok (.tableswitch 547 0 14 #[76, 149, 174, 187, 224, 237, 262, 297, 310, 323, 379, 404, 417, 442, 510], 76) := by decide +kernel
theorem dL_law_116 : decode cL_law 116 = .ok (.aload_n 1, 1) := by decide +kernel
theorem dL_law_117 : decode cL_law 117 = .ok (.aload_n 0, 1) := by decide +kernel
theorem dL_law_118 : decode cL_law 118 = .ok (.iload 4, 2) := by decide +kernel
theorem dL_law_120 : decode cL_law 120 = .ok (.iconst 1, 1) := by decide +kernel
theorem dL_law_121 : decode cL_law 121 = .ok (.iadd, 1) := by decide +kernel
theorem dL_law_122 : decode cL_law 122 = .ok (.iaload, 1) := by decide +kernel
theorem dL_law_123 : decode cL_law 123 = .ok (.aload_n 0, 1) := by decide +kernel
theorem dL_law_124 : decode cL_law 124 = .ok (.iload 4, 2) := by decide +kernel
theorem dL_law_126 : decode cL_law 126 = .ok (.iconst 2, 1) := by decide +kernel
theorem dL_law_127 : decode cL_law 127 = .ok (.iadd, 1) := by decide +kernel
theorem dL_law_128 : decode cL_law 128 = .ok (.iaload, 1) := by decide +kernel
theorem dL_law_129 : decode cL_law 129 = .ok (.aload_n 0, 1) := by decide +kernel
theorem dL_law_130 : decode cL_law 130 = .ok (.iload 4, 2) := by decide +kernel
theorem dL_law_132 : decode cL_law 132 = .ok (.iconst 3, 1) := by decide +kernel
theorem dL_law_133 : decode cL_law 133 = .ok (.iadd, 1) := by decide +kernel
theorem dL_law_134 : decode cL_law 134 = .ok (.iaload, 1) := by decide +kernel
theorem dL_law_135 : decode cL_law 135 = .ok (.aload_n 0, 1) := by decide +kernel
theorem dL_law_136 : decode cL_law 136 = .ok (.iload 4, 2) := by decide +kernel
theorem dL_law_138 : decode cL_law 138 = .ok (.iconst 4, 1) := by decide +kernel
theorem dL_law_139 : decode cL_law 139 = .ok (.iadd, 1) := by decide +kernel
theorem dL_law_140 : decode cL_law 140 = .ok (.iaload, 1) := by decide +kernel
theorem dL_law_141 : decode cL_law 141 = .ok (.aload_n 0, 1) := by decide +kernel
theorem dL_law_142 : decode cL_law 142 = .ok (.iload 4, 2) := by decide +kernel
theorem dL_law_144 : decode cL_law 144 = .ok (.iconst 5, 1) := by decide +kernel
theorem dL_law_145 : decode cL_law 145 = .ok (.iadd, 1) := by decide +kernel
theorem dL_law_146 : decode cL_law 146 = .ok (.iaload, 1) := by decide +kernel
theorem dL_law_147 : decode cL_law 147 = .ok (.invokevirtual 23, 3) := by decide +kernel
theorem dL_law_150 : decode cL_law 150 = .ok (.aload_n 2, 1) := by decide +kernel
theorem dL_law_151 : decode cL_law 151 = .ok (.aload_n 0, 1) := by decide +kernel
theorem dL_law_152 : decode cL_law 152 = .ok (.iload 4, 2) := by decide +kernel
theorem dL_law_154 : decode cL_law 154 = .ok (.iconst 1, 1) := by decide +kernel
theorem dL_law_155 : decode cL_law 155 = .ok (.iadd, 1) := by decide +kernel
theorem dL_law_156 : decode cL_law 156 = .ok (.iaload, 1) := by decide +kernel
theorem dL_law_157 : decode cL_law 157 = .ok (.aload_n 0, 1) := by decide +kernel
theorem dL_law_158 : decode cL_law 158 = .ok (.iload 4, 2) := by decide +kernel
theorem dL_law_160 : decode cL_law 160 = .ok (.iconst 2, 1) := by decide +kernel
theorem dL_law_161 : decode cL_law 161 = .ok (.iadd, 1) := by decide +kernel
theorem dL_law_162 : decode cL_law 162 = .ok (.iaload, 1) := by decide +kernel
theorem dL_law_163 : decode cL_law 163 = .ok (.aload_n 0, 1) := by decide +kernel
theorem dL_law_164 : decode cL_law 164 = .ok (.iload 4, 2) := by decide +kernel
theorem dL_law_166 : decode cL_law 166 = .ok (.iconst 3, 1) := by decide +kernel
theorem dL_law_167 : decode cL_law 167 = .ok (.iadd, 1) := by decide +kernel
theorem dL_law_168 : decode cL_law 168 = .ok (.iaload, 1) := by decide +kernel
theorem dL_law_169 : decode cL_law 169 = .ok (.aload_n 0, 1) := by decide +kernel
theorem dL_law_170 : decode cL_law 170 = .ok (.iload 4, 2) := by decide +kernel
theorem dL_law_172 : decode cL_law 172 = .ok (.iconst 4, 1) := by decide +kernel
theorem dL_law_173 : decode cL_law 173 = .ok (.iadd, 1) := by decide +kernel
theorem dL_law_174 : decode cL_law 174 = .ok (.iaload, 1) := by decide +kernel
theorem dL_law_175 : decode cL_law 175 = .ok (.aload_n 0, 1) := by decide +kernel
theorem dL_law_176 : decode cL_law 176 = .ok (.iload 4, 2) := by decide +kernel
theorem dL_law_178 : decode cL_law 178 = .ok (.iconst 5, 1) := by decide +kernel
theorem dL_law_179 : decode cL_law 179 = .ok (.iadd, 1) := by decide +kernel
theorem dL_law_180 : decode cL_law 180 = .ok (.iaload, 1) := by decide +kernel
theorem dL_law_181 : decode cL_law 181 = .ok (.invokevirtual 27, 3) := by decide +kernel
theorem dL_law_184 : decode cL_law 184 = .ok (.if_icmp .eq 403, 3) := by decide +kernel
theorem dL_law_187 : decode cL_law 187 = .ok (.iconst 0, 1) := by decide +kernel
theorem dL_law_188 : decode cL_law 188 = .ok (.ireturn, 1) := by decide +kernel
theorem dL_law_189 : decode cL_law 189 = .ok (.aload_n 1, 1) := by decide +kernel
theorem dL_law_190 : decode cL_law 190 = .ok (.aload_n 0, 1) := by decide +kernel
theorem dL_law_191 : decode cL_law 191 = .ok (.iload 4, 2) := by decide +kernel
theorem dL_law_193 : decode cL_law 193 = .ok (.iconst 1, 1) := by decide +kernel
theorem dL_law_194 : decode cL_law 194 = .ok (.iadd, 1) := by decide +kernel
theorem dL_law_195 : decode cL_law 195 = .ok (.iaload, 1) := by decide +kernel
theorem dL_law_196 : decode cL_law 196 = .ok (.invokevirtual 28, 3) := by decide +kernel
theorem dL_law_199 : decode cL_law 199 = .ok (.aload_n 2, 1) := by decide +kernel
theorem dL_law_200 : decode cL_law 200 = .ok (.aload_n 0, 1) := by decide +kernel
theorem dL_law_201 : decode cL_law 201 = .ok (.iload 4, 2) := by decide +kernel
theorem dL_law_203 : decode cL_law 203 = .ok (.iconst 1, 1) := by decide +kernel
theorem dL_law_204 : decode cL_law 204 = .ok (.iadd, 1) := by decide +kernel
theorem dL_law_205 : decode cL_law 205 = .ok (.iaload, 1) := by decide +kernel
theorem dL_law_206 : decode cL_law 206 = .ok (.invokevirtual 32, 3) := by decide +kernel
theorem dL_law_209 : decode cL_law 209 = .ok (.if_icmp .eq 378, 3) := by decide +kernel
theorem dL_law_212 : decode cL_law 212 = .ok (.iconst 0, 1) := by decide +kernel
theorem dL_law_213 : decode cL_law 213 = .ok (.ireturn, 1) := by decide +kernel
theorem dL_law_214 : decode cL_law 214 = .ok (.aload_n 1, 1) := by decide +kernel
theorem dL_law_215 : decode cL_law 215 = .ok (.invokevirtual 33, 3) := by decide +kernel
theorem dL_law_218 : decode cL_law 218 = .ok (.aload_n 2, 1) := by decide +kernel
theorem dL_law_219 : decode cL_law 219 = .ok (.invokevirtual 37, 3) := by decide +kernel
theorem dL_law_222 : decode cL_law 222 = .ok (.if_icmp .eq 365, 3) := by decide +kernel
theorem dL_law_225 : decode cL_law 225 = .ok (.iconst 0, 1) := by decide +kernel
theorem dL_law_226 : decode cL_law 226 = .ok (.ireturn, 1) := by decide +kernel
theorem dL_law_227 : decode cL_law 227 = .ok (.aload_n 1, 1) := by decide +kernel
theorem dL_law_228 : decode cL_law 228 = .ok (.aload_n 0, 1) := by decide +kernel
theorem dL_law_229 : decode cL_law 229 = .ok (.iload 4, 2) := by decide +kernel
theorem dL_law_231 : decode cL_law 231 = .ok (.iconst 1, 1) := by decide +kernel
theorem dL_law_232 : decode cL_law 232 = .ok (.iadd, 1) := by decide +kernel
theorem dL_law_233 : decode cL_law 233 = .ok (.iaload, 1) := by decide +kernel
theorem dL_law_234 : decode cL_law 234 = .ok (.aload_n 0, 1) := by decide +kernel
theorem dL_law_235 : decode cL_law 235 = .ok (.iload 4, 2) := by decide +kernel
theorem dL_law_237 : decode cL_law 237 = .ok (.iconst 2, 1) := by decide +kernel
theorem dL_law_238 : decode cL_law 238 = .ok (.iadd, 1) := by decide +kernel
theorem dL_law_239 : decode cL_law 239 = .ok (.iaload, 1) := by decide +kernel
theorem dL_law_240 : decode cL_law 240 = .ok (.invokevirtual 38, 3) := by decide +kernel
theorem dL_law_243 : decode cL_law 243 = .ok (.aload_n 2, 1) := by decide +kernel
theorem dL_law_244 : decode cL_law 244 = .ok (.aload_n 0, 1) := by decide +kernel
theorem dL_law_245 : decode cL_law 245 = .ok (.iload 4, 2) := by decide +kernel
theorem dL_law_247 : decode cL_law 247 = .ok (.iconst 1, 1) := by decide +kernel
theorem dL_law_248 : decode cL_law 248 = .ok (.iadd, 1) := by decide +kernel
theorem dL_law_249 : decode cL_law 249 = .ok (.iaload, 1) := by decide +kernel
theorem dL_law_250 : decode cL_law 250 = .ok (.aload_n 0, 1) := by decide +kernel
theorem dL_law_251 : decode cL_law 251 = .ok (.iload 4, 2) := by decide +kernel
theorem dL_law_253 : decode cL_law 253 = .ok (.iconst 2, 1) := by decide +kernel
theorem dL_law_254 : decode cL_law 254 = .ok (.iadd, 1) := by decide +kernel
theorem dL_law_255 : decode cL_law 255 = .ok (.iaload, 1) := by decide +kernel
theorem dL_law_256 : decode cL_law 256 = .ok (.invokevirtual 41, 3) := by decide +kernel
theorem dL_law_259 : decode cL_law 259 = .ok (.if_icmp .eq 328, 3) := by decide +kernel
theorem dL_law_262 : decode cL_law 262 = .ok (.iconst 0, 1) := by decide +kernel
theorem dL_law_263 : decode cL_law 263 = .ok (.ireturn, 1) := by decide +kernel
theorem dL_law_264 : decode cL_law 264 = .ok (.aload_n 1, 1) := by decide +kernel
theorem dL_law_265 : decode cL_law 265 = .ok (.invokevirtual 42, 3) := by decide +kernel
theorem dL_law_268 : decode cL_law 268 = .ok (.aload_n 2, 1) := by decide +kernel
theorem dL_law_269 : decode cL_law 269 = .ok (.invokevirtual 46, 3) := by decide +kernel
theorem dL_law_272 : decode cL_law 272 = .ok (.if_icmp .eq 315, 3) := by decide +kernel
theorem dL_law_275 : decode cL_law 275 = .ok (.iconst 0, 1) := by decide +kernel
theorem dL_law_276 : decode cL_law 276 = .ok (.ireturn, 1) := by decide +kernel
theorem dL_law_277 : decode cL_law 277 = .ok (.aload_n 1, 1) := by decide +kernel
theorem dL_law_278 : decode cL_law 278 = .ok (.aload_n 0, 1) := by decide +kernel
theorem dL_law_279 : decode cL_law 279 = .ok (.iload 4, 2) := by decide +kernel
theorem dL_law_281 : decode cL_law 281 = .ok (.iconst 1, 1) := by decide +kernel
theorem dL_law_282 : decode cL_law 282 = .ok (.iadd, 1) := by decide +kernel
theorem dL_law_283 : decode cL_law 283 = .ok (.iaload, 1) := by decide +kernel
theorem dL_law_284 : decode cL_law 284 = .ok (.invokevirtual 47, 3) := by decide +kernel
theorem dL_law_287 : decode cL_law 287 = .ok (.aload_n 2, 1) := by decide +kernel
theorem dL_law_288 : decode cL_law 288 = .ok (.aload_n 0, 1) := by decide +kernel
theorem dL_law_289 : decode cL_law 289 = .ok (.iload 4, 2) := by decide +kernel
theorem dL_law_291 : decode cL_law 291 = .ok (.iconst 1, 1) := by decide +kernel
theorem dL_law_292 : decode cL_law 292 = .ok (.iadd, 1) := by decide +kernel
theorem dL_law_293 : decode cL_law 293 = .ok (.iaload, 1) := by decide +kernel
theorem dL_law_294 : decode cL_law 294 = .ok (.invokevirtual 50, 3) := by decide +kernel
theorem dL_law_297 : decode cL_law 297 = .ok (.if_icmp .eq 290, 3) := by decide +kernel
theorem dL_law_300 : decode cL_law 300 = .ok (.iconst 0, 1) := by decide +kernel
theorem dL_law_301 : decode cL_law 301 = .ok (.ireturn, 1) := by decide +kernel
theorem dL_law_302 : decode cL_law 302 = .ok (.aload_n 1, 1) := by decide +kernel
theorem dL_law_303 : decode cL_law 303 = .ok (.aload_n 0, 1) := by decide +kernel
theorem dL_law_304 : decode cL_law 304 = .ok (.iload 4, 2) := by decide +kernel
theorem dL_law_306 : decode cL_law 306 = .ok (.iconst 1, 1) := by decide +kernel
theorem dL_law_307 : decode cL_law 307 = .ok (.iadd, 1) := by decide +kernel
theorem dL_law_308 : decode cL_law 308 = .ok (.iaload, 1) := by decide +kernel
theorem dL_law_309 : decode cL_law 309 = .ok (.aload_n 0, 1) := by decide +kernel
theorem dL_law_310 : decode cL_law 310 = .ok (.iload 4, 2) := by decide +kernel
theorem dL_law_312 : decode cL_law 312 = .ok (.iconst 2, 1) := by decide +kernel
theorem dL_law_313 : decode cL_law 313 = .ok (.iadd, 1) := by decide +kernel
theorem dL_law_314 : decode cL_law 314 = .ok (.iaload, 1) := by decide +kernel
theorem dL_law_315 : decode cL_law 315 = .ok (.invokevirtual 51, 3) := by decide +kernel
theorem dL_law_318 : decode cL_law 318 = .ok (.aload_n 2, 1) := by decide +kernel
theorem dL_law_319 : decode cL_law 319 = .ok (.aload_n 0, 1) := by decide +kernel
theorem dL_law_320 : decode cL_law 320 = .ok (.iload 4, 2) := by decide +kernel
theorem dL_law_322 : decode cL_law 322 = .ok (.iconst 1, 1) := by decide +kernel
theorem dL_law_323 : decode cL_law 323 = .ok (.iadd, 1) := by decide +kernel
theorem dL_law_324 : decode cL_law 324 = .ok (.iaload, 1) := by decide +kernel
theorem dL_law_325 : decode cL_law 325 = .ok (.aload_n 0, 1) := by decide +kernel
theorem dL_law_326 : decode cL_law 326 = .ok (.iload 4, 2) := by decide +kernel
theorem dL_law_328 : decode cL_law 328 = .ok (.iconst 2, 1) := by decide +kernel
theorem dL_law_329 : decode cL_law 329 = .ok (.iadd, 1) := by decide +kernel
theorem dL_law_330 : decode cL_law 330 = .ok (.iaload, 1) := by decide +kernel
theorem dL_law_331 : decode cL_law 331 = .ok (.invokevirtual 55, 3) := by decide +kernel
theorem dL_law_334 : decode cL_law 334 = .ok (.goto 253, 3) := by decide +kernel
theorem dL_law_337 : decode cL_law 337 = .ok (.aload_n 1, 1) := by decide +kernel
theorem dL_law_338 : decode cL_law 338 = .ok (.invokevirtual 56, 3) := by decide +kernel
theorem dL_law_341 : decode cL_law 341 = .ok (.aload_n 2, 1) := by decide +kernel
theorem dL_law_342 : decode cL_law 342 = .ok (.invokevirtual 59, 3) := by decide +kernel
theorem dL_law_345 : decode cL_law 345 = .ok (.if_icmp .eq 242, 3) := by decide +kernel
theorem dL_law_348 : decode cL_law 348 = .ok (.iconst 0, 1) := by decide +kernel
theorem dL_law_349 : decode cL_law 349 = .ok (.ireturn, 1) := by decide +kernel
theorem dL_law_350 : decode cL_law 350 = .ok (.aload_n 1, 1) := by decide +kernel
theorem dL_law_351 : decode cL_law 351 = .ok (.invokevirtual 60, 3) := by decide +kernel
theorem dL_law_354 : decode cL_law 354 = .ok (.aload_n 2, 1) := by decide +kernel
theorem dL_law_355 : decode cL_law 355 = .ok (.invokevirtual 63, 3) := by decide +kernel
theorem dL_law_358 : decode cL_law 358 = .ok (.if_icmp .eq 229, 3) := by decide +kernel
theorem dL_law_361 : decode cL_law 361 = .ok (.iconst 0, 1) := by decide +kernel
theorem dL_law_362 : decode cL_law 362 = .ok (.ireturn, 1) := by decide +kernel
theorem dL_law_363 : decode cL_law 363 = .ok (.aload_n 1, 1) := by decide +kernel
theorem dL_law_364 : decode cL_law 364 = .ok (.aload_n 0, 1) := by decide +kernel
theorem dL_law_365 : decode cL_law 365 = .ok (.iload 4, 2) := by decide +kernel
theorem dL_law_367 : decode cL_law 367 = .ok (.iconst 1, 1) := by decide +kernel
theorem dL_law_368 : decode cL_law 368 = .ok (.iadd, 1) := by decide +kernel
theorem dL_law_369 : decode cL_law 369 = .ok (.iaload, 1) := by decide +kernel
theorem dL_law_370 : decode cL_law 370 = .ok (.aload_n 3, 1) := by decide +kernel
theorem dL_law_371 : decode cL_law 371 = .ok (.invokestatic 64, 3) := by decide +kernel
theorem dL_law_374 : decode cL_law 374 = .ok (.istore 5, 2) := by decide +kernel
theorem dL_law_376 : decode cL_law 376 = .ok (.aload_n 2, 1) := by decide +kernel
theorem dL_law_377 : decode cL_law 377 = .ok (.aload_n 0, 1) := by decide +kernel
theorem dL_law_378 : decode cL_law 378 = .ok (.iload 4, 2) := by decide +kernel
theorem dL_law_380 : decode cL_law 380 = .ok (.iconst 1, 1) := by decide +kernel
theorem dL_law_381 : decode cL_law 381 = .ok (.iadd, 1) := by decide +kernel
theorem dL_law_382 : decode cL_law 382 = .ok (.iaload, 1) := by decide +kernel
theorem dL_law_383 : decode cL_law 383 = .ok (.invokevirtual 69, 3) := by decide +kernel
theorem dL_law_386 : decode cL_law 386 = .ok (.istore 6, 2) := by decide +kernel
theorem dL_law_388 : decode cL_law 388 = .ok (.aload_n 2, 1) := by decide +kernel
theorem dL_law_389 : decode cL_law 389 = .ok (.invokevirtual 70, 3) := by decide +kernel
theorem dL_law_392 : decode cL_law 392 = .ok (.iload 5, 2) := by decide +kernel
theorem dL_law_394 : decode cL_law 394 = .ok (.if_icmp .eq 5, 3) := by decide +kernel
theorem dL_law_397 : decode cL_law 397 = .ok (.iconst 0, 1) := by decide +kernel
theorem dL_law_398 : decode cL_law 398 = .ok (.ireturn, 1) := by decide +kernel
theorem dL_law_399 : decode cL_law 399 = .ok (.iload 5, 2) := by decide +kernel
theorem dL_law_401 : decode cL_law 401 = .ok (.ifCond .ne 15, 3) := by decide +kernel
theorem dL_law_404 : decode cL_law 404 = .ok (.aload_n 3, 1) := by decide +kernel
theorem dL_law_405 : decode cL_law 405 = .ok (.iconst 0, 1) := by decide +kernel
theorem dL_law_406 : decode cL_law 406 = .ok (.laload, 1) := by decide +kernel
theorem dL_law_407 : decode cL_law 407 = .ok (.iload 6, 2) := by decide +kernel
theorem dL_law_409 : decode cL_law 409 = .ok (.i2l, 1) := by decide +kernel
theorem dL_law_410 : decode cL_law 410 = .ok (.lcmp, 1) := by decide +kernel
theorem dL_law_411 : decode cL_law 411 = .ok (.ifCond .eq 5, 3) := by decide +kernel
theorem dL_law_414 : decode cL_law 414 = .ok (.iconst 0, 1) := by decide +kernel
theorem dL_law_415 : decode cL_law 415 = .ok (.ireturn, 1) := by decide +kernel
theorem dL_law_416 : decode cL_law 416 = .ok (.goto 171, 3) := by decide +kernel
theorem dL_law_419 : decode cL_law 419 = .ok (.aload_n 1, 1) := by decide +kernel
theorem dL_law_420 : decode cL_law 420 = .ok (.aload_n 0, 1) := by decide +kernel
theorem dL_law_421 : decode cL_law 421 = .ok (.iload 4, 2) := by decide +kernel
theorem dL_law_423 : decode cL_law 423 = .ok (.iconst 1, 1) := by decide +kernel
theorem dL_law_424 : decode cL_law 424 = .ok (.iadd, 1) := by decide +kernel
theorem dL_law_425 : decode cL_law 425 = .ok (.iaload, 1) := by decide +kernel
theorem dL_law_426 : decode cL_law 426 = .ok (.invokevirtual 73, 3) := by decide +kernel
theorem dL_law_429 : decode cL_law 429 = .ok (.aload_n 2, 1) := by decide +kernel
theorem dL_law_430 : decode cL_law 430 = .ok (.aload_n 0, 1) := by decide +kernel
theorem dL_law_431 : decode cL_law 431 = .ok (.iload 4, 2) := by decide +kernel
theorem dL_law_433 : decode cL_law 433 = .ok (.iconst 1, 1) := by decide +kernel
theorem dL_law_434 : decode cL_law 434 = .ok (.iadd, 1) := by decide +kernel
theorem dL_law_435 : decode cL_law 435 = .ok (.iaload, 1) := by decide +kernel
theorem dL_law_436 : decode cL_law 436 = .ok (.invokevirtual 76, 3) := by decide +kernel
theorem dL_law_439 : decode cL_law 439 = .ok (.if_icmp .eq 148, 3) := by decide +kernel
theorem dL_law_442 : decode cL_law 442 = .ok (.iconst 0, 1) := by decide +kernel
theorem dL_law_443 : decode cL_law 443 = .ok (.ireturn, 1) := by decide +kernel
theorem dL_law_444 : decode cL_law 444 = .ok (.aload_n 1, 1) := by decide +kernel
theorem dL_law_445 : decode cL_law 445 = .ok (.invokevirtual 77, 3) := by decide +kernel
theorem dL_law_448 : decode cL_law 448 = .ok (.aload_n 2, 1) := by decide +kernel
theorem dL_law_449 : decode cL_law 449 = .ok (.invokevirtual 80, 3) := by decide +kernel
theorem dL_law_452 : decode cL_law 452 = .ok (.if_icmp .eq 135, 3) := by decide +kernel
theorem dL_law_455 : decode cL_law 455 = .ok (.iconst 0, 1) := by decide +kernel
theorem dL_law_456 : decode cL_law 456 = .ok (.ireturn, 1) := by decide +kernel
theorem dL_law_457 : decode cL_law 457 = .ok (.aload_n 1, 1) := by decide +kernel
theorem dL_law_458 : decode cL_law 458 = .ok (.aload_n 0, 1) := by decide +kernel
theorem dL_law_459 : decode cL_law 459 = .ok (.iload 4, 2) := by decide +kernel
theorem dL_law_461 : decode cL_law 461 = .ok (.iconst 1, 1) := by decide +kernel
theorem dL_law_462 : decode cL_law 462 = .ok (.iadd, 1) := by decide +kernel
theorem dL_law_463 : decode cL_law 463 = .ok (.iaload, 1) := by decide +kernel
theorem dL_law_464 : decode cL_law 464 = .ok (.invokevirtual 81, 3) := by decide +kernel
theorem dL_law_467 : decode cL_law 467 = .ok (.aload_n 2, 1) := by decide +kernel
theorem dL_law_468 : decode cL_law 468 = .ok (.aload_n 0, 1) := by decide +kernel
theorem dL_law_469 : decode cL_law 469 = .ok (.iload 4, 2) := by decide +kernel
theorem dL_law_471 : decode cL_law 471 = .ok (.iconst 1, 1) := by decide +kernel
theorem dL_law_472 : decode cL_law 472 = .ok (.iadd, 1) := by decide +kernel
theorem dL_law_473 : decode cL_law 473 = .ok (.iaload, 1) := by decide +kernel
theorem dL_law_474 : decode cL_law 474 = .ok (.invokevirtual 84, 3) := by decide +kernel
theorem dL_law_477 : decode cL_law 477 = .ok (.if_icmp .eq 110, 3) := by decide +kernel
theorem dL_law_480 : decode cL_law 480 = .ok (.iconst 0, 1) := by decide +kernel
theorem dL_law_481 : decode cL_law 481 = .ok (.ireturn, 1) := by decide +kernel
theorem dL_law_482 : decode cL_law 482 = .ok (.aload_n 1, 1) := by decide +kernel
theorem dL_law_483 : decode cL_law 483 = .ok (.aload_n 0, 1) := by decide +kernel
theorem dL_law_484 : decode cL_law 484 = .ok (.iload 4, 2) := by decide +kernel
theorem dL_law_486 : decode cL_law 486 = .ok (.iconst 1, 1) := by decide +kernel
theorem dL_law_487 : decode cL_law 487 = .ok (.iadd, 1) := by decide +kernel
theorem dL_law_488 : decode cL_law 488 = .ok (.iaload, 1) := by decide +kernel
theorem dL_law_489 : decode cL_law 489 = .ok (.aload_n 0, 1) := by decide +kernel
theorem dL_law_490 : decode cL_law 490 = .ok (.iload 4, 2) := by decide +kernel
theorem dL_law_492 : decode cL_law 492 = .ok (.iconst 2, 1) := by decide +kernel
theorem dL_law_493 : decode cL_law 493 = .ok (.iadd, 1) := by decide +kernel
theorem dL_law_494 : decode cL_law 494 = .ok (.iaload, 1) := by decide +kernel
theorem dL_law_495 : decode cL_law 495 = .ok (.aload_n 3, 1) := by decide +kernel
theorem dL_law_496 : decode cL_law 496 = .ok (.invokestatic 85, 3) := by decide +kernel
theorem dL_law_499 : decode cL_law 499 = .ok (.istore 5, 2) := by decide +kernel
theorem dL_law_501 : decode cL_law 501 = .ok (.aload_n 2, 1) := by decide +kernel
theorem dL_law_502 : decode cL_law 502 = .ok (.aload_n 0, 1) := by decide +kernel
theorem dL_law_503 : decode cL_law 503 = .ok (.iload 4, 2) := by decide +kernel
theorem dL_law_505 : decode cL_law 505 = .ok (.iconst 1, 1) := by decide +kernel
theorem dL_law_506 : decode cL_law 506 = .ok (.iadd, 1) := by decide +kernel
theorem dL_law_507 : decode cL_law 507 = .ok (.iaload, 1) := by decide +kernel
theorem dL_law_508 : decode cL_law 508 = .ok (.aload_n 0, 1) := by decide +kernel
theorem dL_law_509 : decode cL_law 509 = .ok (.iload 4, 2) := by decide +kernel
theorem dL_law_511 : decode cL_law 511 = .ok (.iconst 2, 1) := by decide +kernel
theorem dL_law_512 : decode cL_law 512 = .ok (.iadd, 1) := by decide +kernel
theorem dL_law_513 : decode cL_law 513 = .ok (.iaload, 1) := by decide +kernel
theorem dL_law_514 : decode cL_law 514 = .ok (.invokevirtual 88, 3) := by decide +kernel
theorem dL_law_517 : decode cL_law 517 = .ok (.istore 6, 2) := by decide +kernel
theorem dL_law_519 : decode cL_law 519 = .ok (.aload_n 2, 1) := by decide +kernel
theorem dL_law_520 : decode cL_law 520 = .ok (.invokevirtual 70, 3) := by decide +kernel
theorem dL_law_523 : decode cL_law 523 = .ok (.iload 5, 2) := by decide +kernel
theorem dL_law_525 : decode cL_law 525 = .ok (.if_icmp .eq 5, 3) := by decide +kernel
theorem dL_law_528 : decode cL_law 528 = .ok (.iconst 0, 1) := by decide +kernel
theorem dL_law_529 : decode cL_law 529 = .ok (.ireturn, 1) := by decide +kernel
theorem dL_law_530 : decode cL_law 530 = .ok (.iload 5, 2) := by decide +kernel
theorem dL_law_532 : decode cL_law 532 = .ok (.ifCond .ne 15, 3) := by decide +kernel
theorem dL_law_535 : decode cL_law 535 = .ok (.aload_n 3, 1) := by decide +kernel
theorem dL_law_536 : decode cL_law 536 = .ok (.iconst 0, 1) := by decide +kernel
theorem dL_law_537 : decode cL_law 537 = .ok (.laload, 1) := by decide +kernel
theorem dL_law_538 : decode cL_law 538 = .ok (.iload 6, 2) := by decide +kernel
theorem dL_law_540 : decode cL_law 540 = .ok (.i2l, 1) := by decide +kernel
theorem dL_law_541 : decode cL_law 541 = .ok (.lcmp, 1) := by decide +kernel
theorem dL_law_542 : decode cL_law 542 = .ok (.ifCond .eq 5, 3) := by decide +kernel
theorem dL_law_545 : decode cL_law 545 = .ok (.iconst 0, 1) := by decide +kernel
theorem dL_law_546 : decode cL_law 546 = .ok (.ireturn, 1) := by decide +kernel
theorem dL_law_547 : decode cL_law 547 = .ok (.goto 40, 3) := by decide +kernel
theorem dL_law_550 : decode cL_law 550 = .ok (.aload_n 1, 1) := by decide +kernel
theorem dL_law_551 : decode cL_law 551 = .ok (.aload_n 0, 1) := by decide +kernel
theorem dL_law_552 : decode cL_law 552 = .ok (.iload 4, 2) := by decide +kernel
theorem dL_law_554 : decode cL_law 554 = .ok (.iconst 1, 1) := by decide +kernel
theorem dL_law_555 : decode cL_law 555 = .ok (.iadd, 1) := by decide +kernel
theorem dL_law_556 : decode cL_law 556 = .ok (.iaload, 1) := by decide +kernel
theorem dL_law_557 : decode cL_law 557 = .ok (.aload_n 0, 1) := by decide +kernel
theorem dL_law_558 : decode cL_law 558 = .ok (.iload 4, 2) := by decide +kernel
theorem dL_law_560 : decode cL_law 560 = .ok (.iconst 2, 1) := by decide +kernel
theorem dL_law_561 : decode cL_law 561 = .ok (.iadd, 1) := by decide +kernel
theorem dL_law_562 : decode cL_law 562 = .ok (.iaload, 1) := by decide +kernel
theorem dL_law_563 : decode cL_law 563 = .ok (.invokevirtual 89, 3) := by decide +kernel
theorem dL_law_566 : decode cL_law 566 = .ok (.aload_n 2, 1) := by decide +kernel
theorem dL_law_567 : decode cL_law 567 = .ok (.aload_n 0, 1) := by decide +kernel
theorem dL_law_568 : decode cL_law 568 = .ok (.iload 4, 2) := by decide +kernel
theorem dL_law_570 : decode cL_law 570 = .ok (.iconst 1, 1) := by decide +kernel
theorem dL_law_571 : decode cL_law 571 = .ok (.iadd, 1) := by decide +kernel
theorem dL_law_572 : decode cL_law 572 = .ok (.iaload, 1) := by decide +kernel
theorem dL_law_573 : decode cL_law 573 = .ok (.aload_n 0, 1) := by decide +kernel
theorem dL_law_574 : decode cL_law 574 = .ok (.iload 4, 2) := by decide +kernel
theorem dL_law_576 : decode cL_law 576 = .ok (.iconst 2, 1) := by decide +kernel
theorem dL_law_577 : decode cL_law 577 = .ok (.iadd, 1) := by decide +kernel
theorem dL_law_578 : decode cL_law 578 = .ok (.iaload, 1) := by decide +kernel
theorem dL_law_579 : decode cL_law 579 = .ok (.invokevirtual 92, 3) := by decide +kernel
theorem dL_law_582 : decode cL_law 582 = .ok (.if_icmp .eq 5, 3) := by decide +kernel
theorem dL_law_585 : decode cL_law 585 = .ok (.iconst 0, 1) := by decide +kernel
theorem dL_law_586 : decode cL_law 586 = .ok (.ireturn, 1) := by decide +kernel
theorem dL_law_587 : decode cL_law 587 = .ok (.iinc 4 6, 3) := by decide +kernel
theorem dL_law_590 : decode cL_law 590 = .ok (.goto (-567), 3) := by decide +kernel
theorem dL_law_593 : decode cL_law 593 = .ok (.iconst 1, 1) := by decide +kernel
theorem dL_law_594 : decode cL_law 594 = .ok (.ireturn, 1) := by decide +kernel
abbrev vwCl : List vw_C := [(RX0, TX0, 9), (RX1, TX1, 10), (RX2, TX2, 6), (RX4, TX4, 2), (RX6, TX6, 2), (RX7, TX7, 9), (RX8, TX8, 39)]
end
section
section FHC
variable {p : Program} {l : Launch} {e : Env} {R : Room} {s : State} {m : MethodId} {args : Array Value} {below : List Frame} {meth : Method} {c : Code} {H : Heap} {locs : List Loc} {cells slots : Nat} {Q : State → Prop} {pc : Nat} {ls : Array Slot} {rest : List Value}
/-- a throw caught by the only row of this method's table -/
theorem fh_catch {own name : String} {E : String} {ce : Cell} {q : Addr} (hown : s.vm.findClass own = some m.cls) (x : ExceptionTableEntry) (htab : c.exceptionTable.toList = [x])
    (hx : covers x pc = true) (h0 : x.catchType ≠ 0) (hlink : (Cond.classLink own x.catchType name).before args s = true) (hcast : (Cond.castable E name).before args s = true)
    (hcell : H[q]? = some ce) (hv : ce.vm = .none) (hcl : s.vm.findClass E = some ce.cls)
    (kk : W p l e R s m args below meth c H locs cells slots Q (F0 m x.handlerPc ls [.ref q])) : vx_W p l e R s m args below meth c H locs cells slots Q (F0 m pc ls rest) q := by
  intro T hT X
  have hpl : e.platform.magicAccessors = ({} : Platform).magicAccessors := by rw [X.admits.platform]
  obtain ⟨c3, c4, hc3, hc4, hasg⟩ := Cond.castable_spec hcast
  cases Option.some.inj (hc3.symm.trans hcl)
  obtain ⟨c5, hc5, hlk⟩ := Cond.classLink_spec hown hlink e.platform hpl
  cases Option.some.inj (hc4.symm.trans hc5)
  obtain ⟨k0, hk0, -⟩ := Vm.findClass_spec hcl
  obtain ⟨dk, _, _, kt, hd, _, _, _, _, hkt, _, hop⟩ := hlk.here
  have hW := X.warmed
  have hlT := hW.classLinks hlk
  have hal : T.vm.Alike (T.vm.noted m.cls x.catchType (.cls c4)) := (Vm.Alike.refl T.vm).noted _ _ _
  have hsv : ((T.setTop (F0 m pc ls rest)).pushFrame (.throwing q)).vm = T.vm := Stand.throwing_vm T _ q
  have hsh : ((T.setTop (F0 m pc ls rest)).pushFrame (.throwing q)).heap = T.heap := Stand.throwing_heap T _ q
  obtain ⟨k1, hk1, -⟩ := hW.alike.2.2 _ _ hk0
  obtain ⟨k2, hk2, -⟩ := hW.alike.2.2 _ _ hkt
  obtain ⟨k1', hk1', -⟩ := hal.2.2 _ _ hk1
  obtain ⟨k2', hk2', -⟩ := hal.2.2 _ _ hk2
  have hfit : (T.vm.noted m.cls x.catchType (.cls c4)).assignable ce.cls c4 = true := by rw [hal.assignable, hW.alike.assignable]; exact hasg
  have hcT : T.heap[q]? = some ce := by rw [hT]; exact hcell
  have hobj : ∀ k, ce.vm ≠ .statics k := fun k h => by rw [hv] at h; cases h
  have hfind : ∀ (Q : Handler → Pre) (E : CtlPost) (d : Bool) (acts : List Action), wp (findHandler (F0 m pc ls rest) q) Q E e d acts ((T.setTop (F0 m pc ls rest)).pushFrame (.throwing q)) ↔ Q (.found x.handlerPc) d acts (((T.setTop (F0 m pc ls rest)).pushFrame (.throwing q)).setVm (T.vm.noted m.cls x.catchType (.cls c4))) := by
    intro Q E d acts
    rw [W.findHandler_eq (meth := meth) (code := c) (by rw [hsv]; exact X.method') X.code, htab]
    generalize hSS : (T.setTop (F0 m pc ls rest)).pushFrame (.throwing q) = SS at hsv hsh ⊢
    obtain ⟨ha, ht⟩ := (resolveClass_links e.toSetting (show SS.vm.ClassLinks e.platform m.cls x.catchType c4 by rw [hsv]; exact hlT)).op (op := VmOp.resolveClass m.cls x.catchType) rfl
    have hx2 : covers x (F0 m pc ls rest).pc = true := hx
    have hmc : (F0 m pc ls rest).method.cls = m.cls := rfl
    simp only [covers] at hx2
    rw [hsv] at ha ht
    simp [findHandler.go, hx2, hmc, h0, ha, ht, hsv, hsh, hcT, hobj, hk1', hk2', hfit, VmOp.dirties, VmOp.acts]
  obtain ⟨t, a1, b1⟩ := kk (T.setVm (T.vm.noted m.cls x.catchType (.cls c4))) hT (X.noted (hW.noted hd hop (State.rightAt_cls hlk)))
  refine ⟨t, ?_, b1⟩
  obtain ⟨hgo, hw⟩ := X.here.throwing (g := F0 m pc ls rest) q
  refine Steps.head hgo hw ?_
  rw [stepThread_throwing (frames_entered X.here.top _)]
  sorry
end FHC
end
