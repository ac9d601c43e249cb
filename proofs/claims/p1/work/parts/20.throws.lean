set_option maxHeartbeats 4000000 in
set_option maxRecDepth 100000 in
theorem k_lineAt (l : Launch) (hlt : l.stackTraces = false) (dC : Nat → ClassId) (dI : Nat → Nat → Nat) (bt ta wi se re : Nat) (eb sn sp sa sm : Int32) (wb : Nat) (n0 : Int32) (sz : Nat) : vx_Met l yX7_lineAt wsX7_lineAt ({ frames := 6, cells := 1, slots := 6, locals := 81 }) (va_Pc [.ref bt, .int n0] (fun U => U.heap.size = sz ∧ va_P (dC, dI) vwCl [(bt, .inr (5, [.ref ta, .ref wi, .ref se, .ref re, .int eb, .int sn, .int sp, .int sa, .int sm])), (wi, .inr (4, [.ref wb, .int 0]))] U.heap ∧ va_K (dC, dI) vwCl [] U ∧ va_D (fun _ => True) [(bt, .inr (5, [.ref ta, .ref wi, .ref se, .ref re, .int eb, .int sn, .int sp, .int sa, .int sm])), (wi, .inr (4, [.ref wb, .int 0]))] ∧ vx_Zq Bundle.tN "UNASSIGNED_STACK" Bundle.steD (va_A [(bt, .inr (5, [.ref ta, .ref wi, .ref se, .ref re, .int eb, .int sn, .int sp, .int sa, .int sm])), (wi, .inr (4, [.ref wb, .int 0]))] sz) U U.heap ∧ vx_Zq Bundle.tN "SUPPRESSED_SENTINEL" Bundle.listD (va_A [(bt, .inr (5, [.ref ta, .ref wi, .ref se, .ref re, .int eb, .int sn, .int sp, .int sa, .int sm])), (wi, .inr (4, [.ref wb, .int 0]))] sz) U U.heap ∧ va_Nw (.declares (Bundle.init0 "java/lang/RuntimeException")) U ∧ va_Nw (.declares (Bundle.init0 "java/lang/Exception")) U ∧ va_Nw (.declares (Bundle.init0 Bundle.tN)) U ∧ va_Nw (.castable "java/util/NoSuchElementException" "java/util/NoSuchElementException") U)) (va_Qi (fun (r : Int32) (_ : Unit) => False) (fun (_ : Unit) (_ : State) => True) (va_A [(bt, .inr (5, [.ref ta, .ref wi, .ref se, .ref re, .int eb, .int sn, .int sp, .int sa, .int sm])), (wi, .inr (4, [.ref wb, .int 0]))] sz)) (vx_X (fun _ : Unit => True) (fun E _ _ => E = "java/util/NoSuchElementException") (va_A [(bt, .inr (5, [.ref ta, .ref wi, .ref se, .ref re, .int eb, .int sn, .int sp, .int sa, .int sm])), (wi, .inr (4, [.ref wb, .int 0]))] sz)) 1 6 (va_A [(bt, .inr (5, [.ref ta, .ref wi, .ref se, .ref re, .int eb, .int sn, .int sp, .int sa, .int sm])), (wi, .inr (4, [.ref wb, .int 0]))] sz) := by
  refine vx_ofW (cc := cX7_lineAt) (maxL := 2) (ret := (some .int)) (by decide) rfl ?_
  intro p e s m args below meth c s₁ B hml hno hv
  obtain ⟨rfl, hsz, hP, hK, hD0, hX0, hX1, hX2, hX3, hX4, hX5⟩ := hv
  have hx := B.exec
  have hb := B.bytes
  have hr := B.returns
  have hts := atoms_spec (ws := wsX7_lineAt) B.pre
  have hown : s.vm.findClass RX7 = some m.cls := findClass_of_methodNamed B.named
  have hlocks := B.notSynchronized
  subst hsz
  have hD := hD0.self (sz := s.heap.size)
  generalize hAe : va_A [(bt, .inr (5, [.ref ta, .ref wi, .ref se, .ref re, .int eb, .int sn, .int sp, .int sa, .int sm])), (wi, .inr (4, [.ref wb, .int 0]))] s.heap.size = A at hX0 hX1 hD ⊢
  have hA : ∀ q : Nat, s.heap.size ≤ q → A q := fun q h => by rw [← hAe]; exact Or.inr h
  have hS : va_S A s.heap s.heap [] := va_S.rf
  have hP : va_P (dC, dI) vwCl [(bt, .inr (5, [.ref ta, .ref wi, .ref se, .ref re, .int eb, .int sn, .int sp, .int sa, .int sm])), (wi, .inr (4, [.ref wb, .int 0]))] s.heap := hP
  have hl := lv_entry ([.ref bt, .int n0]) (n := 2) (Nat.le_of_ble_eq_true rfl)
  rw [lg_entry_eq]
  generalize (lg_sl ([.ref bt, .int n0]) ++ List.replicate (2 - (lg_sl ([.ref bt, .int n0])).length) Slot.unset).toArray = ls at hl ⊢
  have hl : lv_has ls 2 [(0, .ref bt), (1, .int n0)] := hl
  have iX6 : ∀ w ∈ wsX60, w ∈ wsX7_lineAt := by decide +kernel
  have iX7 : ∀ w ∈ wsX70, w ∈ wsX7_lineAt := by decide +kernel
  refine lv_iload_n hx hb dX7_lineAt_0 rfl (lv_at hl 1 rfl) ?_
  refine lv_if_lt (tgt := 15) hx hb dX7_lineAt_1 (by decide) (fun c_1 => ?_) (fun c_1 => ?_)
  · exact vx_throw0 (names := ["java/lang/RuntimeException", "java/lang/Exception"]) (A := A) hx hb hlt hown (by decide) (by decide) (hts (.classLink RX7 125 "java/util/NoSuchElementException") (List.mem_cons_of_mem _ (List.mem_append_left _ (List.mem_append_left _ (List.mem_append_left _ (List.mem_cons_self)))))) (hts (.initialized "java/util/NoSuchElementException") (List.mem_cons_of_mem _ (List.mem_append_left _ (List.mem_append_left _ (List.mem_append_left _ (List.mem_cons_of_mem _ List.mem_cons_self)))))) (vx_hat (B := [.declares (Bundle.init0 "java/lang/RuntimeException"), .declares (Bundle.init0 "java/lang/Exception"), .declares (Bundle.init0 Bundle.tN), .castable "java/util/NoSuchElementException" "java/util/NoSuchElementException"]) (fun w h => hts w (List.mem_cons_of_mem _ (List.mem_append_right _ h))) (by decide +kernel) (vx_c (va_Nw.use rfl hX2) (vx_c (va_Nw.use rfl hX3) (vx_c (va_Nw.use rfl hX4) (vx_c (va_Nw.use rfl hX5) vx_n))))) (by decide +kernel) hX0 hX1 hS (by rw [hml]; exact hl.1) dX7_lineAt_15 dX7_lineAt_18 dX7_lineAt_19 dX7_lineAt_22 (fun x h => (hno x h).elim) (by decide) (by decide) (by decide) (by decide) hlocks (fun t h0 h1 h2 => ⟨(), trivial, rfl, Nat.le_trans hS.1 h1, fun q a b => (h2 q (Nat.lt_of_lt_of_le a hS.1)).trans (hS.2.1 q a b)⟩) hS.2.2 (by decide) (by decide)
  · refine lv_iload_n hx hb dX7_lineAt_4 rfl (lv_at hl 1 rfl) ?_
    refine lv_aload_n hx hb dX7_lineAt_5 rfl (lv_at hl 0 rfl) ?_
    refine va_get (D := (dC, dI)) (ci := 5) (v := .ref wi) (C := RX7) (T := TX7) (N := 9) hx hb hts iX7 hown hK hP 0 rfl rfl 1 (by decide) (hts (.fieldLink RX7 19 "BatchTransfer" "wire" "LBatchTransfer$Wire;") (by decide +kernel)) (fun _ h9 => h9) rfl dX7_lineAt_6 ?_
    refine va_get (D := (dC, dI)) (ci := 4) (v := .int 0) (C := RX6) (T := TX6) (N := 2) hx hb hts iX6 hown hK hP 1 rfl rfl 1 (by decide) (hts (.fieldLink RX7 124 "BatchTransfer$Wire" "length" "I") (by decide +kernel)) (fun _ h9 => h9) rfl dX7_lineAt_9 ?_
    refine lv_icmp_lt (tgt := 23) hx hb dX7_lineAt_12 (by decide) (fun c_2 => ?_) (fun c_2 => ?_)
    · exact absurd c_2 c_1
    · exact vx_throw0 (names := ["java/lang/RuntimeException", "java/lang/Exception"]) (A := A) hx hb hlt hown (by decide) (by decide) (hts (.classLink RX7 125 "java/util/NoSuchElementException") (List.mem_cons_of_mem _ (List.mem_append_left _ (List.mem_append_left _ (List.mem_append_left _ (List.mem_cons_self)))))) (hts (.initialized "java/util/NoSuchElementException") (List.mem_cons_of_mem _ (List.mem_append_left _ (List.mem_append_left _ (List.mem_append_left _ (List.mem_cons_of_mem _ List.mem_cons_self)))))) (vx_hat (B := [.declares (Bundle.init0 "java/lang/RuntimeException"), .declares (Bundle.init0 "java/lang/Exception"), .declares (Bundle.init0 Bundle.tN), .castable "java/util/NoSuchElementException" "java/util/NoSuchElementException"]) (fun w h => hts w (List.mem_cons_of_mem _ (List.mem_append_right _ h))) (by decide +kernel) (vx_c (va_Nw.use rfl hX2) (vx_c (va_Nw.use rfl hX3) (vx_c (va_Nw.use rfl hX4) (vx_c (va_Nw.use rfl hX5) vx_n))))) (by decide +kernel) hX0 hX1 hS (by rw [hml]; exact hl.1) dX7_lineAt_15 dX7_lineAt_18 dX7_lineAt_19 dX7_lineAt_22 (fun x h => (hno x h).elim) (by decide) (by decide) (by decide) (by decide) hlocks (fun t h0 h1 h2 => ⟨(), trivial, rfl, Nat.le_trans hS.1 h1, fun q a b => (h2 q (Nat.lt_of_lt_of_le a hS.1)).trans (hS.2.1 q a b)⟩) hS.2.2 (by decide) (by decide)

set_option maxHeartbeats 4000000 in
set_option maxRecDepth 100000 in
theorem k_byteAt (l : Launch) (hlt : l.stackTraces = false) (dC : Nat → ClassId) (dI : Nat → Nat → Nat) (bt ta wi se re : Nat) (eb sn sp sa sm : Int32) (ar an ak ad as_ az : Nat) (r0 r1 r2 r4 r5 r6 r7 r8 : Int32) (n0 n1 : Int32) (sz : Nat) : vx_Met l yX7_byteAt wsX7_byteAt ({ frames := 6, cells := 1, slots := 6, locals := 81 }) (va_Pc [.ref bt, .int n0, .int n1] (fun U => U.heap.size = sz ∧ va_P (dC, dI) vwCl [(bt, .inr (5, [.ref ta, .ref wi, .ref se, .ref re, .int eb, .int sn, .int sp, .int sa, .int sm])), (re, .inr (0, [.int r0, .int r1, .int r2, .ref ar, .int r4, .int r5, .int r6, .int r7, .int r8])), (ar, .inr (2, [.ref an, .ref ak, .ref ad, .ref as_, .ref az, .int 0]))] U.heap ∧ va_K (dC, dI) vwCl [] U ∧ va_D (fun _ => True) [(bt, .inr (5, [.ref ta, .ref wi, .ref se, .ref re, .int eb, .int sn, .int sp, .int sa, .int sm])), (re, .inr (0, [.int r0, .int r1, .int r2, .ref ar, .int r4, .int r5, .int r6, .int r7, .int r8])), (ar, .inr (2, [.ref an, .ref ak, .ref ad, .ref as_, .ref az, .int 0]))] ∧ vx_Zq Bundle.tN "UNASSIGNED_STACK" Bundle.steD (va_A [(bt, .inr (5, [.ref ta, .ref wi, .ref se, .ref re, .int eb, .int sn, .int sp, .int sa, .int sm])), (re, .inr (0, [.int r0, .int r1, .int r2, .ref ar, .int r4, .int r5, .int r6, .int r7, .int r8])), (ar, .inr (2, [.ref an, .ref ak, .ref ad, .ref as_, .ref az, .int 0]))] sz) U U.heap ∧ vx_Zq Bundle.tN "SUPPRESSED_SENTINEL" Bundle.listD (va_A [(bt, .inr (5, [.ref ta, .ref wi, .ref se, .ref re, .int eb, .int sn, .int sp, .int sa, .int sm])), (re, .inr (0, [.int r0, .int r1, .int r2, .ref ar, .int r4, .int r5, .int r6, .int r7, .int r8])), (ar, .inr (2, [.ref an, .ref ak, .ref ad, .ref as_, .ref az, .int 0]))] sz) U U.heap ∧ va_Nw (.declares (Bundle.init0 "java/lang/RuntimeException")) U ∧ va_Nw (.declares (Bundle.init0 "java/lang/Exception")) U ∧ va_Nw (.declares (Bundle.init0 Bundle.tN)) U ∧ va_Nw (.castable "java/util/NoSuchElementException" "java/util/NoSuchElementException") U)) (va_Qi (fun (r : Int32) (_ : Unit) => False) (fun (_ : Unit) (_ : State) => True) (va_A [(bt, .inr (5, [.ref ta, .ref wi, .ref se, .ref re, .int eb, .int sn, .int sp, .int sa, .int sm])), (re, .inr (0, [.int r0, .int r1, .int r2, .ref ar, .int r4, .int r5, .int r6, .int r7, .int r8])), (ar, .inr (2, [.ref an, .ref ak, .ref ad, .ref as_, .ref az, .int 0]))] sz)) (vx_X (fun _ : Unit => True) (fun E _ _ => E = "java/util/NoSuchElementException") (va_A [(bt, .inr (5, [.ref ta, .ref wi, .ref se, .ref re, .int eb, .int sn, .int sp, .int sa, .int sm])), (re, .inr (0, [.int r0, .int r1, .int r2, .ref ar, .int r4, .int r5, .int r6, .int r7, .int r8])), (ar, .inr (2, [.ref an, .ref ak, .ref ad, .ref as_, .ref az, .int 0]))] sz)) 1 6 (va_A [(bt, .inr (5, [.ref ta, .ref wi, .ref se, .ref re, .int eb, .int sn, .int sp, .int sa, .int sm])), (re, .inr (0, [.int r0, .int r1, .int r2, .ref ar, .int r4, .int r5, .int r6, .int r7, .int r8])), (ar, .inr (2, [.ref an, .ref ak, .ref ad, .ref as_, .ref az, .int 0]))] sz) := by
  refine vx_ofW (cc := cX7_byteAt) (maxL := 4) (ret := (some .int)) (by decide) rfl ?_
  intro p e s m args below meth c s₁ B hml hno hv
  obtain ⟨rfl, hsz, hP, hK, hD0, hX0, hX1, hX2, hX3, hX4, hX5⟩ := hv
  have hx := B.exec
  have hb := B.bytes
  have hr := B.returns
  have hts := atoms_spec (ws := wsX7_byteAt) B.pre
  have hown : s.vm.findClass RX7 = some m.cls := findClass_of_methodNamed B.named
  have hlocks := B.notSynchronized
  subst hsz
  have hD := hD0.self (sz := s.heap.size)
  generalize hAe : va_A [(bt, .inr (5, [.ref ta, .ref wi, .ref se, .ref re, .int eb, .int sn, .int sp, .int sa, .int sm])), (re, .inr (0, [.int r0, .int r1, .int r2, .ref ar, .int r4, .int r5, .int r6, .int r7, .int r8])), (ar, .inr (2, [.ref an, .ref ak, .ref ad, .ref as_, .ref az, .int 0]))] s.heap.size = A at hX0 hX1 hD ⊢
  have hA : ∀ q : Nat, s.heap.size ≤ q → A q := fun q h => by rw [← hAe]; exact Or.inr h
  have hS : va_S A s.heap s.heap [] := va_S.rf
  have hP : va_P (dC, dI) vwCl [(bt, .inr (5, [.ref ta, .ref wi, .ref se, .ref re, .int eb, .int sn, .int sp, .int sa, .int sm])), (re, .inr (0, [.int r0, .int r1, .int r2, .ref ar, .int r4, .int r5, .int r6, .int r7, .int r8])), (ar, .inr (2, [.ref an, .ref ak, .ref ad, .ref as_, .ref az, .int 0]))] s.heap := hP
  have hl := lv_entry ([.ref bt, .int n0, .int n1]) (n := 4) (Nat.le_of_ble_eq_true rfl)
  rw [lg_entry_eq]
  generalize (lg_sl ([.ref bt, .int n0, .int n1]) ++ List.replicate (4 - (lg_sl ([.ref bt, .int n0, .int n1])).length) Slot.unset).toArray = ls at hl ⊢
  have hl : lv_has ls 4 [(0, .ref bt), (1, .int n0), (2, .int n1)] := hl
  have iX0 : ∀ w ∈ wsX00, w ∈ wsX7_byteAt := by decide +kernel
  have iX7 : ∀ w ∈ wsX70, w ∈ wsX7_byteAt := by decide +kernel
  refine lv_aload_n hx hb dX7_byteAt_0 rfl (lv_at hl 0 rfl) ?_
  refine va_get (D := (dC, dI)) (ci := 5) (v := .ref re) (C := RX7) (T := TX7) (N := 9) hx hb hts iX7 hown hK hP 0 rfl rfl 3 (by decide) (hts (.fieldLink RX7 33 "BatchTransfer" "receiver" "LBatchTransfer$Receiver;") (by decide +kernel)) (fun _ h9 => h9) rfl dX7_byteAt_1 ?_
  refine va_get (D := (dC, dI)) (ci := 0) (v := .ref ar) (C := RX0) (T := TX0) (N := 9) hx hb hts iX0 hown hK hP 1 rfl rfl 3 (by decide) (hts (.fieldLink RX7 132 "BatchTransfer$Receiver" "arrived" "LBatchTransfer$Shelf;") (by decide +kernel)) (fun _ h9 => h9) rfl dX7_byteAt_4 ?_
  refine lv_astore_n (lv' := [(3, .ref ar), (0, .ref bt), (1, .int n0), (2, .int n1)]) hx hb dX7_byteAt_7 rfl hl (by decide) rfl (fun ls hl => ?_)
  refine lv_aload_n hx hb dX7_byteAt_8 rfl (lv_at hl 0 rfl) ?_
  refine lv_iload_n hx hb dX7_byteAt_9 rfl (lv_at hl 2 rfl) ?_
  have hPc := hP.sub (ws' := [(ar, .inr (2, [.ref an, .ref ak, .ref ad, .ref as_, .ref az, .int 0]))]) [2] rfl
  have hDc := hD.sub (ws' := [(ar, .inr (2, [.ref an, .ref ak, .ref ad, .ref as_, .ref az, .int 0]))]) [2] (by decide) rfl
  have hKc := hK.sub (tys' := []) [] rfl
  have hFc := va_free (wc := [(ar, .inr (2, [.ref an, .ref ak, .ref ad, .ref as_, .ref az, .int 0]))]) hD hS hA [2] rfl
  refine va_calli (va_runV (As := [.int n0]) (rest := []) ⟨hx, hb, hml, hown, hts⟩ (k_has l dC dI ar an ak ad as_ az 0 n0 s.heap.size) (cwV 1 hts gX7_byteAt_X2_has rfl rfl rfl (by decide +kernel) ⟨Nat.le_of_ble_eq_true rfl, Nat.le_of_ble_eq_true rfl⟩) ⟨fun a U g mk q => by obtain ⟨q0, q1, qP, qK, qD⟩ := q; exact ⟨q0, q1, qP, va_K.moved (u := U) (U := U.calling g mk a) (Vm.Alike.refl U.vm) qK, qD⟩, va_recv hKc hPc (ci := 2) (q0 := 0) rfl rfl, fun U hU hW => ⟨rfl, by rw [hU], by rw [hU]; exact hPc, va_K.moved hW.alike hKc, hDc.weaken (fun _ _ _ _ => trivial)⟩⟩ rfl rfl hl.1 rfl (lv_room (Nat.le_of_ble_eq_true rfl)) dX7_byteAt_10 ⟨show 0 + 0 ≤ 1 by omega, show 0 + 0 ≤ 6 by omega⟩) hS (fun q _ h => hFc q h) hFc (fun r_1 u t H1 locs ht hvm hw hB hz1 hk1 hS => ?_)
  obtain ⟨hP1, hK1, hD1⟩ := hB
  rw [ht] at hP1
  have hK1 := va_K.moved hvm.symm hK1
  try dsimp only at hw
  obtain ⟨hP, hD⟩ := va_join (wr := [(bt, .inr (5, [.ref ta, .ref wi, .ref se, .ref re, .int eb, .int sn, .int sp, .int sa, .int sm])), (re, .inr (0, [.int r0, .int r1, .int r2, .ref ar, .int r4, .int r5, .int r6, .int r7, .int r8]))]) (w1 := [(ar, .inr (2, [.ref an, .ref ak, .ref ad, .ref as_, .ref az, .int 0]))]) hP hD [2] [0, 1] rfl rfl (by decide) (by decide) hk1 hFc hP1 hD1
  have hK := (hK.sub (tys' := []) [] rfl).app hK1
  generalize H1 = H at hP hS ⊢
  have hK : va_K (dC, dI) vwCl [] s := hK
  have hP : va_P (dC, dI) vwCl [(bt, .inr (5, [.ref ta, .ref wi, .ref se, .ref re, .int eb, .int sn, .int sp, .int sa, .int sm])), (re, .inr (0, [.int r0, .int r1, .int r2, .ref ar, .int r4, .int r5, .int r6, .int r7, .int r8])), (ar, .inr (2, [.ref an, .ref ak, .ref ad, .ref as_, .ref az, .int 0]))] H := hP
  have hD : va_D A [(bt, .inr (5, [.ref ta, .ref wi, .ref se, .ref re, .int eb, .int sn, .int sp, .int sa, .int sm])), (re, .inr (0, [.int r0, .int r1, .int r2, .ref ar, .int r4, .int r5, .int r6, .int r7, .int r8])), (ar, .inr (2, [.ref an, .ref ak, .ref ad, .ref as_, .ref az, .int 0]))] := hD
  obtain rfl : r_1 = 0 := ((Classical.em (n0 < 0)).elim (fun h => hw.1 h) (fun h => hw.2.1 (Int32.not_lt.mp h)))
  refine lv_if_eq (tgt := 30) hx hb dX7_byteAt_13 (by decide) (fun c_2 => ?_) (fun c_2 => absurd (by decide) c_2)
  exact vx_throw0 (names := ["java/lang/RuntimeException", "java/lang/Exception"]) (A := A) hx hb hlt hown (by decide) (by decide) (hts (.classLink RX7 125 "java/util/NoSuchElementException") (List.mem_cons_of_mem _ (List.mem_append_left _ (List.mem_append_left _ (List.mem_append_left _ (List.mem_append_left _ (List.mem_cons_self))))))) (hts (.initialized "java/util/NoSuchElementException") (List.mem_cons_of_mem _ (List.mem_append_left _ (List.mem_append_left _ (List.mem_append_left _ (List.mem_append_left _ (List.mem_cons_of_mem _ List.mem_cons_self))))))) (vx_hat (B := [.declares (Bundle.init0 "java/lang/RuntimeException"), .declares (Bundle.init0 "java/lang/Exception"), .declares (Bundle.init0 Bundle.tN), .castable "java/util/NoSuchElementException" "java/util/NoSuchElementException"]) (fun w h => hts w (List.mem_cons_of_mem _ (List.mem_append_right _ h))) (by decide +kernel) (vx_c (va_Nw.use rfl hX2) (vx_c (va_Nw.use rfl hX3) (vx_c (va_Nw.use rfl hX4) (vx_c (va_Nw.use rfl hX5) vx_n))))) (by decide +kernel) hX0 hX1 hS (by rw [hml]; exact hl.1) dX7_byteAt_30 dX7_byteAt_33 dX7_byteAt_34 dX7_byteAt_37 (fun x h => (hno x h).elim) (by decide) (by decide) (by decide) (by decide) hlocks (fun t h0 h1 h2 => ⟨(), trivial, rfl, Nat.le_trans hS.1 h1, fun q a b => (h2 q (Nat.lt_of_lt_of_le a hS.1)).trans (hS.2.1 q a b)⟩) hS.2.2 (by decide) (by decide)

set_option maxHeartbeats 4000000 in
set_option maxRecDepth 100000 in
theorem l_lineAt (l : Launch) (hlt : l.stackTraces = false) (dC : Nat → ClassId) (dI : Nat → Nat → Nat) (bt ta wi se re : Nat) (eb sn sp sa sm : Int32) (wb : Nat) (n0 : Int32) (ou : Nat) (sz : Nat) : Met l yL_lineAt wsL_lineAt ({ frames := 7, cells := 1, slots := 6, locals := 102 }) (va_Pc [.ref bt, .int n0, .ref ou] (fun U => U.heap.size = sz ∧ va_P (dC, dI) vwCl [(bt, .inr (5, [.ref ta, .ref wi, .ref se, .ref re, .int eb, .int sn, .int sp, .int sa, .int sm])), (wi, .inr (4, [.ref wb, .int 0]))] U.heap ∧ va_K (dC, dI) vwCl [] U ∧ va_D (fun _ => True) [(bt, .inr (5, [.ref ta, .ref wi, .ref se, .ref re, .int eb, .int sn, .int sp, .int sa, .int sm])), (wi, .inr (4, [.ref wb, .int 0]))] ∧ vx_Zq Bundle.tN "UNASSIGNED_STACK" Bundle.steD (va_A [(bt, .inr (5, [.ref ta, .ref wi, .ref se, .ref re, .int eb, .int sn, .int sp, .int sa, .int sm])), (wi, .inr (4, [.ref wb, .int 0]))] sz) U U.heap ∧ vx_Zq Bundle.tN "SUPPRESSED_SENTINEL" Bundle.listD (va_A [(bt, .inr (5, [.ref ta, .ref wi, .ref se, .ref re, .int eb, .int sn, .int sp, .int sa, .int sm])), (wi, .inr (4, [.ref wb, .int 0]))] sz) U U.heap ∧ va_Nw (.declares (Bundle.init0 "java/lang/RuntimeException")) U ∧ va_Nw (.declares (Bundle.init0 "java/lang/Exception")) U ∧ va_Nw (.declares (Bundle.init0 Bundle.tN)) U ∧ va_Nw (.castable "java/util/NoSuchElementException" "java/util/NoSuchElementException") U)) (va_Qi (fun (r : Int32) (_ : Unit) => r = 1) (fun (_ : Unit) (_ : State) => True) (va_A [(bt, .inr (5, [.ref ta, .ref wi, .ref se, .ref re, .int eb, .int sn, .int sp, .int sa, .int sm])), (wi, .inr (4, [.ref wb, .int 0]))] sz)) 1 6 (va_A [(bt, .inr (5, [.ref ta, .ref wi, .ref se, .ref re, .int eb, .int sn, .int sp, .int sa, .int sm])), (wi, .inr (4, [.ref wb, .int 0]))] sz) := by
  refine va_MetW (cc := cL_lineAt) (maxL := 4) (ret := (some .int)) (by decide) rfl ?_
  intro p e s m args below meth c s₁ B hml hv
  obtain ⟨rfl, hsz, hP, hK, hD0, hX0, hX1, hX2, hX3, hX4, hX5⟩ := hv
  have hx := B.exec
  have hb := B.bytes
  have hr := B.returns
  have hts := atoms_spec (ws := wsL_lineAt) B.pre
  have hown : s.vm.findClass RL = some m.cls := findClass_of_methodNamed B.named
  have hlocks := B.notSynchronized
  have htab := vx_table (x := yL_lineAt) B (hts _ List.mem_cons_self)
  subst hsz
  have hD := hD0.self (sz := s.heap.size)
  generalize hAe : va_A [(bt, .inr (5, [.ref ta, .ref wi, .ref se, .ref re, .int eb, .int sn, .int sp, .int sa, .int sm])), (wi, .inr (4, [.ref wb, .int 0]))] s.heap.size = A at hX0 hX1 hD ⊢
  have hA : ∀ q : Nat, s.heap.size ≤ q → A q := fun q h => by rw [← hAe]; exact Or.inr h
  have hS : va_S A s.heap s.heap [] := va_S.rf
  have hP : va_P (dC, dI) vwCl [(bt, .inr (5, [.ref ta, .ref wi, .ref se, .ref re, .int eb, .int sn, .int sp, .int sa, .int sm])), (wi, .inr (4, [.ref wb, .int 0]))] s.heap := hP
  have hl := lv_entry ([.ref bt, .int n0, .ref ou]) (n := 4) (Nat.le_of_ble_eq_true rfl)
  rw [lg_entry_eq]
  generalize (lg_sl ([.ref bt, .int n0, .ref ou]) ++ List.replicate (4 - (lg_sl ([.ref bt, .int n0, .ref ou])).length) Slot.unset).toArray = ls at hl ⊢
  have hl : lv_has ls 4 [(0, .ref bt), (1, .int n0), (2, .ref ou)] := hl
  refine lv_aload_n hx hb dL_lineAt_0 rfl (lv_at hl 2 rfl) ?_
  refine lv_iconst (v := 0) hx hb dL_lineAt_1 (by decide) ?_
  refine lv_aload_n hx hb dL_lineAt_2 rfl (lv_at hl 0 rfl) ?_
  refine lv_iload_n hx hb dL_lineAt_3 rfl (lv_at hl 1 rfl) ?_
  have hPc := hP.sub (ws' := [(bt, .inr (5, [.ref ta, .ref wi, .ref se, .ref re, .int eb, .int sn, .int sp, .int sa, .int sm])), (wi, .inr (4, [.ref wb, .int 0]))]) [0, 1] rfl
  have hDc := hD.sub (ws' := [(bt, .inr (5, [.ref ta, .ref wi, .ref se, .ref re, .int eb, .int sn, .int sp, .int sa, .int sm])), (wi, .inr (4, [.ref wb, .int 0]))]) [0, 1] (by decide) rfl
  have hKc := hK.sub (tys' := []) [] rfl
  have hFc := va_free (wc := [(bt, .inr (5, [.ref ta, .ref wi, .ref se, .ref re, .int eb, .int sn, .int sp, .int sa, .int sm])), (wi, .inr (4, [.ref wb, .int 0]))]) hD hS hA [0, 1] rfl
  refine vx_calli (vx_runV (As := [.int n0]) (rest := [.int 0, .ref ou]) ⟨hx, hb, hml, hown, hts⟩ (k_lineAt l hlt dC dI bt ta wi se re eb sn sp sa sm wb n0 s.heap.size) (cwV 1 hts gL_lineAt_X7_lineAt rfl rfl rfl (by decide +kernel) ⟨Nat.le_of_ble_eq_true rfl, Nat.le_of_ble_eq_true rfl⟩) ⟨fun a U g mk q => by obtain ⟨q0, q1, qP, qK, qD, qX0, qX1, qX2, qX3, qX4, qX5⟩ := q; exact ⟨q0, q1, qP, va_K.moved (u := U) (U := U.calling g mk a) (Vm.Alike.refl U.vm) qK, qD, qX0.moved (Vm.Alike.refl U.vm), qX1.moved (Vm.Alike.refl U.vm), va_Nw.same rfl rfl qX2, va_Nw.same rfl rfl qX3, va_Nw.same rfl rfl qX4, va_Nw.same rfl rfl qX5⟩, va_recv hKc hPc (ci := 5) (q0 := 0) rfl rfl, fun U hU hW => ⟨rfl, by rw [hU], by rw [hU]; exact hPc, va_K.moved hW.alike hKc, hDc.weaken (fun _ _ _ _ => trivial), by rw [hU]; exact ((hX0.kept (fun a h1 h2 => hS.2.1 a h1 h2)).narrow hFc).moved hW.alike, by rw [hU]; exact ((hX1.kept (fun a h1 h2 => hS.2.1 a h1 h2)).narrow hFc).moved hW.alike, va_Nw.warmD hW hX2, va_Nw.warmD hW hX3, va_Nw.warmD hW hX4, va_Nw.warmC hW hX5⟩⟩ rfl rfl hl.1 rfl (lv_room (Nat.le_of_ble_eq_true rfl)) dL_lineAt_4 ⟨Nat.le_of_ble_eq_true rfl, Nat.le_of_ble_eq_true rfl⟩) hS (fun q _ h => hFc q h) hFc (fun q _ h => hFc q h) (fun E ce q9 u t H1 locs ht hvm hpx hBX hz1 hk1 hS hce hcv hcE => ?_) (fun r u t H1 locs1 ht hvm hw hB hz1 hk1 hS => hw.elim)
  obtain rfl := hBX
  refine vx_widen (k := 1) (n := 6) (by omega) (by omega) ?_
  refine fh_catch hown ⟨0, 9, 12, 13⟩ htab (by decide) (by decide) (hts (.classLink RL 13 "java/util/NoSuchElementException") (List.mem_cons_of_mem _ (List.mem_append_left _ (List.mem_append_left _ (List.mem_append_left _ List.mem_cons_self))))) (va_Nw.use rfl hX5) hce hcv hcE ?_
  generalize H1 = H at hS ⊢
  refine lv_astore_n (lv' := [(3, .ref q9), (0, .ref bt), (1, .int n0), (2, .ref ou)]) hx hb dL_lineAt_12 rfl hl (by decide) rfl (fun ls hl => ?_)
  refine lv_iconst (v := 1) hx hb dL_lineAt_13 (by decide) ?_
  exact W.iret (v := 1) hx hb hr (fun t ht hW => ⟨⟨1, (), rfl, rfl, trivial⟩, hS.F ht⟩) hS.2.2 dL_lineAt_14

set_option maxHeartbeats 4000000 in
set_option maxRecDepth 100000 in
theorem l_byteAt (l : Launch) (hlt : l.stackTraces = false) (dC : Nat → ClassId) (dI : Nat → Nat → Nat) (bt ta wi se re : Nat) (eb sn sp sa sm : Int32) (ar an ak ad as_ az : Nat) (r0 r1 r2 r4 r5 r6 r7 r8 : Int32) (n0 n1 : Int32) (ou : Nat) (sz : Nat) : Met l yL_byteAt wsL_byteAt ({ frames := 7, cells := 1, slots := 6, locals := 104 }) (va_Pc [.ref bt, .int n0, .int n1, .ref ou] (fun U => U.heap.size = sz ∧ va_P (dC, dI) vwCl [(bt, .inr (5, [.ref ta, .ref wi, .ref se, .ref re, .int eb, .int sn, .int sp, .int sa, .int sm])), (re, .inr (0, [.int r0, .int r1, .int r2, .ref ar, .int r4, .int r5, .int r6, .int r7, .int r8])), (ar, .inr (2, [.ref an, .ref ak, .ref ad, .ref as_, .ref az, .int 0]))] U.heap ∧ va_K (dC, dI) vwCl [] U ∧ va_D (fun _ => True) [(bt, .inr (5, [.ref ta, .ref wi, .ref se, .ref re, .int eb, .int sn, .int sp, .int sa, .int sm])), (re, .inr (0, [.int r0, .int r1, .int r2, .ref ar, .int r4, .int r5, .int r6, .int r7, .int r8])), (ar, .inr (2, [.ref an, .ref ak, .ref ad, .ref as_, .ref az, .int 0]))] ∧ vx_Zq Bundle.tN "UNASSIGNED_STACK" Bundle.steD (va_A [(bt, .inr (5, [.ref ta, .ref wi, .ref se, .ref re, .int eb, .int sn, .int sp, .int sa, .int sm])), (re, .inr (0, [.int r0, .int r1, .int r2, .ref ar, .int r4, .int r5, .int r6, .int r7, .int r8])), (ar, .inr (2, [.ref an, .ref ak, .ref ad, .ref as_, .ref az, .int 0]))] sz) U U.heap ∧ vx_Zq Bundle.tN "SUPPRESSED_SENTINEL" Bundle.listD (va_A [(bt, .inr (5, [.ref ta, .ref wi, .ref se, .ref re, .int eb, .int sn, .int sp, .int sa, .int sm])), (re, .inr (0, [.int r0, .int r1, .int r2, .ref ar, .int r4, .int r5, .int r6, .int r7, .int r8])), (ar, .inr (2, [.ref an, .ref ak, .ref ad, .ref as_, .ref az, .int 0]))] sz) U U.heap ∧ va_Nw (.declares (Bundle.init0 "java/lang/RuntimeException")) U ∧ va_Nw (.declares (Bundle.init0 "java/lang/Exception")) U ∧ va_Nw (.declares (Bundle.init0 Bundle.tN)) U ∧ va_Nw (.castable "java/util/NoSuchElementException" "java/util/NoSuchElementException") U)) (va_Qi (fun (r : Int32) (_ : Unit) => r = 1) (fun (_ : Unit) (_ : State) => True) (va_A [(bt, .inr (5, [.ref ta, .ref wi, .ref se, .ref re, .int eb, .int sn, .int sp, .int sa, .int sm])), (re, .inr (0, [.int r0, .int r1, .int r2, .ref ar, .int r4, .int r5, .int r6, .int r7, .int r8])), (ar, .inr (2, [.ref an, .ref ak, .ref ad, .ref as_, .ref az, .int 0]))] sz)) 1 6 (va_A [(bt, .inr (5, [.ref ta, .ref wi, .ref se, .ref re, .int eb, .int sn, .int sp, .int sa, .int sm])), (re, .inr (0, [.int r0, .int r1, .int r2, .ref ar, .int r4, .int r5, .int r6, .int r7, .int r8])), (ar, .inr (2, [.ref an, .ref ak, .ref ad, .ref as_, .ref az, .int 0]))] sz) := by
  refine va_MetW (cc := cL_byteAt) (maxL := 5) (ret := (some .int)) (by decide) rfl ?_
  intro p e s m args below meth c s₁ B hml hv
  obtain ⟨rfl, hsz, hP, hK, hD0, hX0, hX1, hX2, hX3, hX4, hX5⟩ := hv
  have hx := B.exec
  have hb := B.bytes
  have hr := B.returns
  have hts := atoms_spec (ws := wsL_byteAt) B.pre
  have hown : s.vm.findClass RL = some m.cls := findClass_of_methodNamed B.named
  have hlocks := B.notSynchronized
  have htab := vx_table (x := yL_byteAt) B (hts _ List.mem_cons_self)
  subst hsz
  have hD := hD0.self (sz := s.heap.size)
  generalize hAe : va_A [(bt, .inr (5, [.ref ta, .ref wi, .ref se, .ref re, .int eb, .int sn, .int sp, .int sa, .int sm])), (re, .inr (0, [.int r0, .int r1, .int r2, .ref ar, .int r4, .int r5, .int r6, .int r7, .int r8])), (ar, .inr (2, [.ref an, .ref ak, .ref ad, .ref as_, .ref az, .int 0]))] s.heap.size = A at hX0 hX1 hD ⊢
  have hA : ∀ q : Nat, s.heap.size ≤ q → A q := fun q h => by rw [← hAe]; exact Or.inr h
  have hS : va_S A s.heap s.heap [] := va_S.rf
  have hP : va_P (dC, dI) vwCl [(bt, .inr (5, [.ref ta, .ref wi, .ref se, .ref re, .int eb, .int sn, .int sp, .int sa, .int sm])), (re, .inr (0, [.int r0, .int r1, .int r2, .ref ar, .int r4, .int r5, .int r6, .int r7, .int r8])), (ar, .inr (2, [.ref an, .ref ak, .ref ad, .ref as_, .ref az, .int 0]))] s.heap := hP
  have hl := lv_entry ([.ref bt, .int n0, .int n1, .ref ou]) (n := 5) (Nat.le_of_ble_eq_true rfl)
  rw [lg_entry_eq]
  generalize (lg_sl ([.ref bt, .int n0, .int n1, .ref ou]) ++ List.replicate (5 - (lg_sl ([.ref bt, .int n0, .int n1, .ref ou])).length) Slot.unset).toArray = ls at hl ⊢
  have hl : lv_has ls 5 [(0, .ref bt), (1, .int n0), (2, .int n1), (3, .ref ou)] := hl
  refine lv_aload_n hx hb dL_byteAt_0 rfl (lv_at hl 3 rfl) ?_
  refine lv_iconst (v := 0) hx hb dL_byteAt_1 (by decide) ?_
  refine lv_aload_n hx hb dL_byteAt_2 rfl (lv_at hl 0 rfl) ?_
  refine lv_iload_n hx hb dL_byteAt_3 rfl (lv_at hl 1 rfl) ?_
  refine lv_iload_n hx hb dL_byteAt_4 rfl (lv_at hl 2 rfl) ?_
  have hPc := hP.sub (ws' := [(bt, .inr (5, [.ref ta, .ref wi, .ref se, .ref re, .int eb, .int sn, .int sp, .int sa, .int sm])), (re, .inr (0, [.int r0, .int r1, .int r2, .ref ar, .int r4, .int r5, .int r6, .int r7, .int r8])), (ar, .inr (2, [.ref an, .ref ak, .ref ad, .ref as_, .ref az, .int 0]))]) [0, 1, 2] rfl
  have hDc := hD.sub (ws' := [(bt, .inr (5, [.ref ta, .ref wi, .ref se, .ref re, .int eb, .int sn, .int sp, .int sa, .int sm])), (re, .inr (0, [.int r0, .int r1, .int r2, .ref ar, .int r4, .int r5, .int r6, .int r7, .int r8])), (ar, .inr (2, [.ref an, .ref ak, .ref ad, .ref as_, .ref az, .int 0]))]) [0, 1, 2] (by decide) rfl
  have hKc := hK.sub (tys' := []) [] rfl
  have hFc := va_free (wc := [(bt, .inr (5, [.ref ta, .ref wi, .ref se, .ref re, .int eb, .int sn, .int sp, .int sa, .int sm])), (re, .inr (0, [.int r0, .int r1, .int r2, .ref ar, .int r4, .int r5, .int r6, .int r7, .int r8])), (ar, .inr (2, [.ref an, .ref ak, .ref ad, .ref as_, .ref az, .int 0]))]) hD hS hA [0, 1, 2] rfl
  refine vx_calli (vx_runV (As := [.int n0, .int n1]) (rest := [.int 0, .ref ou]) ⟨hx, hb, hml, hown, hts⟩ (k_byteAt l hlt dC dI bt ta wi se re eb sn sp sa sm ar an ak ad as_ az r0 r1 r2 r4 r5 r6 r7 r8 n0 n1 s.heap.size) (cwV 2 hts gL_byteAt_X7_byteAt rfl rfl rfl (by decide +kernel) ⟨Nat.le_of_ble_eq_true rfl, Nat.le_of_ble_eq_true rfl⟩) ⟨fun a U g mk q => by obtain ⟨q0, q1, qP, qK, qD, qX0, qX1, qX2, qX3, qX4, qX5⟩ := q; exact ⟨q0, q1, qP, va_K.moved (u := U) (U := U.calling g mk a) (Vm.Alike.refl U.vm) qK, qD, qX0.moved (Vm.Alike.refl U.vm), qX1.moved (Vm.Alike.refl U.vm), va_Nw.same rfl rfl qX2, va_Nw.same rfl rfl qX3, va_Nw.same rfl rfl qX4, va_Nw.same rfl rfl qX5⟩, va_recv hKc hPc (ci := 5) (q0 := 0) rfl rfl, fun U hU hW => ⟨rfl, by rw [hU], by rw [hU]; exact hPc, va_K.moved hW.alike hKc, hDc.weaken (fun _ _ _ _ => trivial), by rw [hU]; exact ((hX0.kept (fun a h1 h2 => hS.2.1 a h1 h2)).narrow hFc).moved hW.alike, by rw [hU]; exact ((hX1.kept (fun a h1 h2 => hS.2.1 a h1 h2)).narrow hFc).moved hW.alike, va_Nw.warmD hW hX2, va_Nw.warmD hW hX3, va_Nw.warmD hW hX4, va_Nw.warmC hW hX5⟩⟩ rfl rfl hl.1 rfl (lv_room (Nat.le_of_ble_eq_true rfl)) dL_byteAt_5 ⟨Nat.le_of_ble_eq_true rfl, Nat.le_of_ble_eq_true rfl⟩) hS (fun q _ h => hFc q h) hFc (fun q _ h => hFc q h) (fun E ce q9 u t H1 locs ht hvm hpx hBX hz1 hk1 hS hce hcv hcE => ?_) (fun r u t H1 locs1 ht hvm hw hB hz1 hk1 hS => hw.elim)
  obtain rfl := hBX
  refine vx_widen (k := 1) (n := 6) (by omega) (by omega) ?_
  refine fh_catch hown ⟨0, 10, 13, 13⟩ htab (by decide) (by decide) (hts (.classLink RL 13 "java/util/NoSuchElementException") (List.mem_cons_of_mem _ (List.mem_append_left _ (List.mem_append_left _ (List.mem_append_left _ (List.mem_append_left _ List.mem_cons_self)))))) (va_Nw.use rfl hX5) hce hcv hcE ?_
  generalize H1 = H at hS ⊢
  refine lv_astore (lv' := [(4, .ref q9), (0, .ref bt), (1, .int n0), (2, .int n1), (3, .ref ou)]) hx hb dL_byteAt_13 hl (by decide) rfl (fun ls hl => ?_)
  refine lv_iconst (v := 1) hx hb dL_byteAt_15 (by decide) ?_
  exact W.iret (v := 1) hx hb hr (fun t ht hW => ⟨⟨1, (), rfl, rfl, trivial⟩, hS.F ht⟩) hS.2.2 dL_byteAt_16
