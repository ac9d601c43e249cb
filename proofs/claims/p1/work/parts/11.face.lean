set_option maxHeartbeats 4000000 in
set_option maxRecDepth 100000 in
theorem k_end (l : Launch) (dC : Nat → ClassId) (dI : Nat → Nat → Nat) (bt ta wi se re : Nat) (eb sn sp sa sm : Int32) (tb : Nat) (n0 : Int32) (sz : Nat) : Met l yX7_end wsX7_end ({ frames := 0, cells := 0, slots := 0, locals := 0 }) (va_Pc [.ref bt, .int n0] (fun U => U.heap.size = sz ∧ va_P (dC, dI) vwCl [(bt, .inr (5, [.ref ta, .ref wi, .ref se, .ref re, .int eb, .int sn, .int sp, .int sa, .int sm])), (ta, .inr (3, [.ref tb, .int 0]))] U.heap ∧ va_K (dC, dI) vwCl [] U ∧ va_D (fun _ => True) [(bt, .inr (5, [.ref ta, .ref wi, .ref se, .ref re, .int eb, .int sn, .int sp, .int sa, .int sm])), (ta, .inr (3, [.ref tb, .int 0]))])) (va_Qi (fun (r : Int32) (_ : Unit) => (n0 < 0 → r = 0) ∧ (¬ n0 ≤ 0 → r = 0) ∧ (¬ n0 < 0 → n0 ≤ 0 → r = 1)) (fun (_ : Unit) (_ : State) => True) (va_A [(bt, .inr (5, [.ref ta, .ref wi, .ref se, .ref re, .int eb, .int sn, .int sp, .int sa, .int sm])), (ta, .inr (3, [.ref tb, .int 0]))] sz)) 0 0 (va_A [(bt, .inr (5, [.ref ta, .ref wi, .ref se, .ref re, .int eb, .int sn, .int sp, .int sa, .int sm])), (ta, .inr (3, [.ref tb, .int 0]))] sz) := by
  refine Met.ofW (cc := cX7_end) (maxL := 2) (ret := (some .boolean)) (by decide) rfl ?_
  intro p e s m args below meth c s₁ B hml hv
  obtain ⟨rfl, hsz, hP, hK, hD0⟩ := hv
  have hx := B.exec
  have hb := B.bytes
  have hr := B.returns
  have hts := atoms_spec (ws := wsX7_end) B.pre
  have hown : s.vm.findClass RX7 = some m.cls := findClass_of_methodNamed B.named
  have hlocks := B.notSynchronized
  subst hsz
  have hD := hD0.self (sz := s.heap.size)
  generalize hAe : va_A [(bt, .inr (5, [.ref ta, .ref wi, .ref se, .ref re, .int eb, .int sn, .int sp, .int sa, .int sm])), (ta, .inr (3, [.ref tb, .int 0]))] s.heap.size = A at hD ⊢
  have hA : ∀ q : Nat, s.heap.size ≤ q → A q := fun q h => by rw [← hAe]; exact Or.inr h
  have hS : va_S A s.heap s.heap [] := va_S.rf
  have hP : va_P (dC, dI) vwCl [(bt, .inr (5, [.ref ta, .ref wi, .ref se, .ref re, .int eb, .int sn, .int sp, .int sa, .int sm])), (ta, .inr (3, [.ref tb, .int 0]))] s.heap := hP
  have hl := lv_entry ([.ref bt, .int n0]) (n := 2) (Nat.le_of_ble_eq_true rfl)
  rw [lg_entry_eq]
  generalize (lg_sl ([.ref bt, .int n0]) ++ List.replicate (2 - (lg_sl ([.ref bt, .int n0])).length) Slot.unset).toArray = ls at hl ⊢
  have hl : lv_has ls 2 [(0, .ref bt), (1, .int n0)] := hl
  have iX4 : ∀ w ∈ wsX40, w ∈ wsX7_end := by decide +kernel
  have iX7 : ∀ w ∈ wsX70, w ∈ wsX7_end := by decide +kernel
  refine lv_iload_n hx hb dX7_end_0 rfl (lv_at hl 1 rfl) ?_
  refine lv_if_lt (tgt := 15) hx hb dX7_end_1 (by decide) (fun c_1 => ?_) (fun c_1 => ?_)
  · refine lv_iconst (v := 0) hx hb dX7_end_15 (by decide) ?_
    exact W.zret (v := 0) hx hb hr rfl (fun t ht hW => ⟨⟨0, (), rfl, ⟨fun _ => rfl, fun _ => rfl, fun h => absurd c_1 h⟩, trivial⟩, hS.F ht⟩) hS.2.2 dX7_end_16
  · refine lv_iload_n hx hb dX7_end_4 rfl (lv_at hl 1 rfl) ?_
    refine lv_aload_n hx hb dX7_end_5 rfl (lv_at hl 0 rfl) ?_
    refine va_get (D := (dC, dI)) (ci := 5) (v := .ref ta) (C := RX7) (T := TX7) (N := 9) hx hb hts iX7 hown hK hP 0 rfl rfl 0 (by decide) (hts (.fieldLink RX7 12 "BatchTransfer" "tape" "LBatchTransfer$Tape;") (by decide +kernel)) (fun _ h9 => h9) rfl dX7_end_6 ?_
    refine va_get (D := (dC, dI)) (ci := 3) (v := .int 0) (C := RX4) (T := TX4) (N := 2) hx hb hts iX4 hown hK hP 1 rfl rfl 1 (by decide) (hts (.fieldLink RX7 37 "BatchTransfer$Tape" "length" "I") (by decide +kernel)) (fun _ h9 => h9) rfl dX7_end_9 ?_
    refine lv_icmp_le (tgt := 17) hx hb dX7_end_12 (by decide) (fun c_2 => ?_) (fun c_2 => ?_)
    · refine lv_aload_n hx hb dX7_end_17 rfl (lv_at hl 0 rfl) ?_
      refine va_get (D := (dC, dI)) (ci := 5) (v := .ref ta) (C := RX7) (T := TX7) (N := 9) hx hb hts iX7 hown hK hP 0 rfl rfl 0 (by decide) (hts (.fieldLink RX7 12 "BatchTransfer" "tape" "LBatchTransfer$Tape;") (by decide +kernel)) (fun _ h9 => h9) rfl dX7_end_18 ?_
      refine lv_iload_n hx hb dX7_end_21 rfl (lv_at hl 1 rfl) ?_
      refine va_put (D := (dC, dI)) (ci := 3) (v := .int n0) (ty := .int) (C := RX4) (T := TX4) (N := 2) hx hb hts iX4 tyX4 tyX4_ok nmX4 hown hK hP hD hS 1 rfl rfl 1 (by decide) (hts (.fieldLink RX7 37 "BatchTransfer$Tape" "length" "I") (by decide +kernel)) (fun _ h9 => h9) rfl (by decide +kernel) rfl rfl (Nat.le_of_ble_eq_true rfl) dX7_end_22 (fun H locs hP hD hS => ?_)
      have hP : va_P (dC, dI) vwCl [(bt, .inr (5, [.ref ta, .ref wi, .ref se, .ref re, .int eb, .int sn, .int sp, .int sa, .int sm])), (ta, .inr (3, [.ref tb, .int n0]))] H := hP
      have hD : va_D A [(bt, .inr (5, [.ref ta, .ref wi, .ref se, .ref re, .int eb, .int sn, .int sp, .int sa, .int sm])), (ta, .inr (3, [.ref tb, .int n0]))] := hD
      refine lv_iconst (v := 1) hx hb dX7_end_25 (by decide) ?_
      exact W.zret (v := 1) hx hb hr rfl (fun t ht hW => ⟨⟨1, (), rfl, ⟨fun h => absurd h c_1, fun h => absurd c_2 h, fun _ _ => rfl⟩, trivial⟩, hS.F ht⟩) hS.2.2 dX7_end_26
    · refine lv_iconst (v := 0) hx hb dX7_end_15 (by decide) ?_
      exact W.zret (v := 0) hx hb hr rfl (fun t ht hW => ⟨⟨0, (), rfl, ⟨fun _ => rfl, fun _ => rfl, fun _ h => absurd h c_2⟩, trivial⟩, hS.F ht⟩) hS.2.2 dX7_end_16

set_option maxHeartbeats 4000000 in
set_option maxRecDepth 100000 in
theorem k_nl (l : Launch) (dC : Nat → ClassId) (dI : Nat → Nat → Nat) (ta tb : Nat) (sz : Nat) : Met l yX4_nameLength wsX4_nameLength ({ frames := 0, cells := 0, slots := 0, locals := 0 }) (va_Pc [.ref ta] (fun U => U.heap.size = sz ∧ va_P (dC, dI) vwCl [(ta, .inr (3, [.ref tb, .int 0]))] U.heap ∧ va_K (dC, dI) vwCl [] U ∧ va_D (fun _ => True) [(ta, .inr (3, [.ref tb, .int 0]))])) (va_Qi (fun (r : Int32) (_ : Unit) => r = -1) (fun (_ : Unit) (t : State) => va_P (dC, dI) vwCl [(ta, .inr (3, [.ref tb, .int 0]))] t.heap ∧ va_K (dC, dI) vwCl [] t ∧ va_D (va_A [(ta, .inr (3, [.ref tb, .int 0]))] sz) [(ta, .inr (3, [.ref tb, .int 0]))]) (va_A [(ta, .inr (3, [.ref tb, .int 0]))] sz)) 0 0 (va_A [(ta, .inr (3, [.ref tb, .int 0]))] sz) := by
  refine Met.ofW (cc := cX4_nameLength) (maxL := 2) (ret := (some .int)) (by decide) rfl ?_
  intro p e s m args below meth c s₁ B hml hv
  obtain ⟨rfl, hsz, hP, hK, hD0⟩ := hv
  have hx := B.exec
  have hb := B.bytes
  have hr := B.returns
  have hts := atoms_spec (ws := wsX4_nameLength) B.pre
  have hown : s.vm.findClass RX4 = some m.cls := findClass_of_methodNamed B.named
  have hlocks := B.notSynchronized
  subst hsz
  have hD := hD0.self (sz := s.heap.size)
  generalize hAe : va_A [(ta, .inr (3, [.ref tb, .int 0]))] s.heap.size = A at hD ⊢
  have hA : ∀ q : Nat, s.heap.size ≤ q → A q := fun q h => by rw [← hAe]; exact Or.inr h
  have hS : va_S A s.heap s.heap [] := va_S.rf
  have hP : va_P (dC, dI) vwCl [(ta, .inr (3, [.ref tb, .int 0]))] s.heap := hP
  have hl := lv_entry ([.ref ta]) (n := 2) (Nat.le_of_ble_eq_true rfl)
  rw [lg_entry_eq]
  generalize (lg_sl ([.ref ta]) ++ List.replicate (2 - (lg_sl ([.ref ta])).length) Slot.unset).toArray = ls at hl ⊢
  have hl : lv_has ls 2 [(0, .ref ta)] := hl
  have iX4 : ∀ w ∈ wsX40, w ∈ wsX4_nameLength := by decide +kernel
  refine lv_iconst (v := 0) hx hb dX4_nameLength_0 (by decide) ?_
  refine lv_istore_n (lv' := [(1, .int 0), (0, .ref ta)]) hx hb dX4_nameLength_1 rfl hl (by decide) rfl (fun ls hl => ?_)
  refine lv_iload_n hx hb dX4_nameLength_2 rfl (lv_at hl 0 rfl) ?_
  refine lv_aload_n hx hb dX4_nameLength_3 rfl (lv_at hl 1 rfl) ?_
  refine va_get (D := (dC, dI)) (ci := 3) (v := .int 0) (C := RX4) (T := TX4) (N := 2) hx hb hts iX4 hown hK hP 0 rfl rfl 1 (by decide) (hts (.fieldLink RX4 15 "BatchTransfer$Tape" "length" "I") (by decide +kernel)) (fun _ h9 => h9) rfl dX4_nameLength_4 ?_
  refine lv_icmp_ge (tgt := 41) hx hb dX4_nameLength_7 (by decide) (fun c_1 => ?_) (fun c_1 => absurd (by decide) c_1)
  refine lv_iconst (v := (-1)) hx hb dX4_nameLength_41 (by decide) ?_
  have hP9 := hP.sub (ws' := [(ta, .inr (3, [.ref tb, .int 0]))]) [0] rfl
  have hD9 := hD.sub (ws' := [(ta, .inr (3, [.ref tb, .int 0]))]) [0] (by decide) rfl
  have hK9 := hK.sub (tys' := []) [] rfl
  exact W.iret (v := (-1)) hx hb hr (fun t ht hW => ⟨⟨(-1), (), rfl, rfl, by rw [ht]; exact hP9, va_K.moved hW.alike hK9, hD9⟩, hS.F ht⟩) hS.2.2 dX4_nameLength_42

set_option maxHeartbeats 4000000 in
set_option maxRecDepth 100000 in
theorem k_file (l : Launch) (dC : Nat → ClassId) (dI : Nat → Nat → Nat) (bt ta wi se re : Nat) (eb sn sp sa sm : Int32) (tb : Nat) (sz : Nat) : Met l yX7_file wsX7_file ({ frames := 1, cells := 0, slots := 0, locals := 21 }) (va_Pc [.ref bt] (fun U => U.heap.size = sz ∧ va_P (dC, dI) vwCl [(bt, .inr (5, [.ref ta, .ref wi, .ref se, .ref re, .int eb, .int sn, .int sp, .int sa, .int sm])), (ta, .inr (3, [.ref tb, .int 0]))] U.heap ∧ va_K (dC, dI) vwCl [] U ∧ va_D (fun _ => True) [(bt, .inr (5, [.ref ta, .ref wi, .ref se, .ref re, .int eb, .int sn, .int sp, .int sa, .int sm])), (ta, .inr (3, [.ref tb, .int 0]))])) (va_Qi (fun (r : Int32) (_ : Unit) => r = -1) (fun (_ : Unit) (_ : State) => True) (va_A [(bt, .inr (5, [.ref ta, .ref wi, .ref se, .ref re, .int eb, .int sn, .int sp, .int sa, .int sm])), (ta, .inr (3, [.ref tb, .int 0]))] sz)) 0 0 (va_A [(bt, .inr (5, [.ref ta, .ref wi, .ref se, .ref re, .int eb, .int sn, .int sp, .int sa, .int sm])), (ta, .inr (3, [.ref tb, .int 0]))] sz) := by
  refine Met.ofW (cc := cX7_file) (maxL := 5) (ret := (some .int)) (by decide) rfl ?_
  intro p e s m args below meth c s₁ B hml hv
  obtain ⟨rfl, hsz, hP, hK, hD0⟩ := hv
  have hx := B.exec
  have hb := B.bytes
  have hr := B.returns
  have hts := atoms_spec (ws := wsX7_file) B.pre
  have hown : s.vm.findClass RX7 = some m.cls := findClass_of_methodNamed B.named
  have hlocks := B.notSynchronized
  subst hsz
  have hD := hD0.self (sz := s.heap.size)
  generalize hAe : va_A [(bt, .inr (5, [.ref ta, .ref wi, .ref se, .ref re, .int eb, .int sn, .int sp, .int sa, .int sm])), (ta, .inr (3, [.ref tb, .int 0]))] s.heap.size = A at hD ⊢
  have hA : ∀ q : Nat, s.heap.size ≤ q → A q := fun q h => by rw [← hAe]; exact Or.inr h
  have hS : va_S A s.heap s.heap [] := va_S.rf
  have hP : va_P (dC, dI) vwCl [(bt, .inr (5, [.ref ta, .ref wi, .ref se, .ref re, .int eb, .int sn, .int sp, .int sa, .int sm])), (ta, .inr (3, [.ref tb, .int 0]))] s.heap := hP
  have hl := lv_entry ([.ref bt]) (n := 5) (Nat.le_of_ble_eq_true rfl)
  rw [lg_entry_eq]
  generalize (lg_sl ([.ref bt]) ++ List.replicate (5 - (lg_sl ([.ref bt])).length) Slot.unset).toArray = ls at hl ⊢
  have hl : lv_has ls 5 [(0, .ref bt)] := hl
  have iX4 : ∀ w ∈ wsX40, w ∈ wsX7_file := by decide +kernel
  have iX7 : ∀ w ∈ wsX70, w ∈ wsX7_file := by decide +kernel
  refine lv_aload_n hx hb dX7_file_0 rfl (lv_at hl 0 rfl) ?_
  refine va_get (D := (dC, dI)) (ci := 5) (v := .ref ta) (C := RX7) (T := TX7) (N := 9) hx hb hts iX7 hown hK hP 0 rfl rfl 0 (by decide) (hts (.fieldLink RX7 12 "BatchTransfer" "tape" "LBatchTransfer$Tape;") (by decide +kernel)) (fun _ h9 => h9) rfl dX7_file_1 ?_
  have hPc := hP.sub (ws' := [(ta, .inr (3, [.ref tb, .int 0]))]) [1] rfl
  have hDc := hD.sub (ws' := [(ta, .inr (3, [.ref tb, .int 0]))]) [1] (by decide) rfl
  have hKc := hK.sub (tys' := []) [] rfl
  have hFc := va_free (wc := [(ta, .inr (3, [.ref tb, .int 0]))]) hD hS hA [1] rfl
  refine va_calli (va_runV (As := []) (rest := []) ⟨hx, hb, hml, hown, hts⟩ (k_nl l dC dI ta tb s.heap.size) (cwV 0 hts gX7_file_X4_nameLength rfl rfl rfl (by decide +kernel) ⟨Nat.le_of_ble_eq_true rfl, Nat.le_of_ble_eq_true rfl⟩) ⟨fun a U g mk q => by obtain ⟨q0, q1, qP, qK, qD⟩ := q; exact ⟨q0, q1, qP, va_K.moved (u := U) (U := U.calling g mk a) (Vm.Alike.refl U.vm) qK, qD⟩, va_recv hKc hPc (ci := 3) (q0 := 0) rfl rfl, fun U hU hW => ⟨rfl, by rw [hU], by rw [hU]; exact hPc, va_K.moved hW.alike hKc, hDc.weaken (fun _ _ _ _ => trivial)⟩⟩ rfl rfl hl.1 rfl (lv_room (Nat.le_of_ble_eq_true rfl)) dX7_file_4 ⟨show 0 + 0 ≤ 0 by omega, show 0 + 0 ≤ 0 by omega⟩) hS (fun q _ h => hFc q h) hFc (fun r_1 u t H1 locs ht hvm hw hB hz1 hk1 hS => ?_)
  obtain ⟨hP1, hK1, hD1⟩ := hB
  rw [ht] at hP1
  have hK1 := va_K.moved hvm.symm hK1
  try dsimp only at hw
  obtain ⟨hP, hD⟩ := va_join (wr := [(bt, .inr (5, [.ref ta, .ref wi, .ref se, .ref re, .int eb, .int sn, .int sp, .int sa, .int sm]))]) (w1 := [(ta, .inr (3, [.ref tb, .int 0]))]) hP hD [1] [0] rfl rfl (by decide) (by decide) hk1 hFc hP1 hD1
  have hK := (hK.sub (tys' := []) [] rfl).app hK1
  generalize H1 = H at hP hS ⊢
  have hK : va_K (dC, dI) vwCl [] s := hK
  have hP : va_P (dC, dI) vwCl [(bt, .inr (5, [.ref ta, .ref wi, .ref se, .ref re, .int eb, .int sn, .int sp, .int sa, .int sm])), (ta, .inr (3, [.ref tb, .int 0]))] H := hP
  have hD : va_D A [(bt, .inr (5, [.ref ta, .ref wi, .ref se, .ref re, .int eb, .int sn, .int sp, .int sa, .int sm])), (ta, .inr (3, [.ref tb, .int 0]))] := hD
  obtain rfl : r_1 = (-1) := hw
  refine lv_istore_n (lv' := [(1, .int (-1)), (0, .ref bt)]) hx hb dX7_file_7 rfl hl (by decide) rfl (fun ls hl => ?_)
  refine lv_iload_n hx hb dX7_file_8 rfl (lv_at hl 0 rfl) ?_
  refine lv_iconst (v := 1) hx hb dX7_file_9 (by decide) ?_
  refine lv_iadd hx hb dX7_file_10 ?_
  refine lv_topi (fun x_2 ex_2 => ?_)
  obtain rfl : x_2 = 0 := ex_2.trans (by decide)
  refine lv_istore_n (lv' := [(2, .int 0), (1, .int (-1)), (0, .ref bt)]) hx hb dX7_file_11 rfl hl (by decide) rfl (fun ls hl => ?_)
  refine lv_aload_n hx hb dX7_file_12 rfl (lv_at hl 2 rfl) ?_
  refine va_get (D := (dC, dI)) (ci := 5) (v := .ref ta) (C := RX7) (T := TX7) (N := 9) hx hb hts iX7 hown hK hP 0 rfl rfl 0 (by decide) (hts (.fieldLink RX7 12 "BatchTransfer" "tape" "LBatchTransfer$Tape;") (by decide +kernel)) (fun _ h9 => h9) rfl dX7_file_13 ?_
  refine va_get (D := (dC, dI)) (ci := 3) (v := .int 0) (C := RX4) (T := TX4) (N := 2) hx hb hts iX4 hown hK hP 1 rfl rfl 1 (by decide) (hts (.fieldLink RX7 37 "BatchTransfer$Tape" "length" "I") (by decide +kernel)) (fun _ h9 => h9) rfl dX7_file_16 ?_
  refine lv_iload_n hx hb dX7_file_19 rfl (lv_at hl 0 rfl) ?_
  refine lv_isub hx hb dX7_file_20 ?_
  refine lv_topi (fun x_3 ex_3 => ?_)
  obtain rfl : x_3 = 0 := ex_3.trans (by decide)
  refine lv_istore_n (lv' := [(3, .int 0), (2, .int 0), (1, .int (-1)), (0, .ref bt)]) hx hb dX7_file_21 rfl hl (by decide) rfl (fun ls hl => ?_)
  refine lv_iload_n hx hb dX7_file_22 rfl (lv_at hl 2 rfl) ?_
  refine lv_iconst (v := (-1)) hx hb dX7_file_23 (by decide) ?_
  refine lv_icmp_eq (tgt := 41) hx hb dX7_file_24 (by decide) (fun c_4 => ?_) (fun c_4 => absurd (by decide) c_4)
  refine lv_iconst (v := (-1)) hx hb dX7_file_41 (by decide) ?_
  exact W.iret (v := (-1)) hx hb hr (fun t ht hW => ⟨⟨(-1), (), rfl, rfl, trivial⟩, hS.F ht⟩) hS.2.2 dX7_file_42

set_option maxHeartbeats 4000000 in
set_option maxRecDepth 100000 in
theorem k_clear (l : Launch) (dC : Nat → ClassId) (dI : Nat → Nat → Nat) (bt ta wi se re : Nat) (eb sn sp sa sm : Int32) (fl un fn fk fd fs fz wb : Nat) (s0 s1 s2 s4 s6 s7 s8 s9 : Int32) (sz : Nat) : Met l yX7_clear wsX7_clear ({ frames := 1, cells := 0, slots := 0, locals := 20 }) (va_Pc [.ref bt] (fun U => U.heap.size = sz ∧ va_P (dC, dI) vwCl [(bt, .inr (5, [.ref ta, .ref wi, .ref se, .ref re, .int eb, .int sn, .int sp, .int sa, .int sm])), (se, .inr (1, [.int s0, .int s1, .int s2, .ref fl, .int s4, .ref un, .int s6, .int s7, .int s8, .int s9])), (fl, .inr (2, [.ref fn, .ref fk, .ref fd, .ref fs, .ref fz, .int 0])), (wi, .inr (4, [.ref wb, .int 0]))] U.heap ∧ va_K (dC, dI) vwCl [] U ∧ va_D (fun _ => True) [(bt, .inr (5, [.ref ta, .ref wi, .ref se, .ref re, .int eb, .int sn, .int sp, .int sa, .int sm])), (se, .inr (1, [.int s0, .int s1, .int s2, .ref fl, .int s4, .ref un, .int s6, .int s7, .int s8, .int s9])), (fl, .inr (2, [.ref fn, .ref fk, .ref fd, .ref fs, .ref fz, .int 0])), (wi, .inr (4, [.ref wb, .int 0]))])) (va_Qi (fun (r : Int32) (_ : Unit) => r = 1) (fun (_ : Unit) (_ : State) => True) (va_A [(bt, .inr (5, [.ref ta, .ref wi, .ref se, .ref re, .int eb, .int sn, .int sp, .int sa, .int sm])), (se, .inr (1, [.int s0, .int s1, .int s2, .ref fl, .int s4, .ref un, .int s6, .int s7, .int s8, .int s9])), (fl, .inr (2, [.ref fn, .ref fk, .ref fd, .ref fs, .ref fz, .int 0])), (wi, .inr (4, [.ref wb, .int 0]))] sz)) 0 0 (va_A [(bt, .inr (5, [.ref ta, .ref wi, .ref se, .ref re, .int eb, .int sn, .int sp, .int sa, .int sm])), (se, .inr (1, [.int s0, .int s1, .int s2, .ref fl, .int s4, .ref un, .int s6, .int s7, .int s8, .int s9])), (fl, .inr (2, [.ref fn, .ref fk, .ref fd, .ref fs, .ref fz, .int 0])), (wi, .inr (4, [.ref wb, .int 0]))] sz) := by
  refine Met.ofW (cc := cX7_clear) (maxL := 1) (ret := (some .boolean)) (by decide) rfl ?_
  intro p e s m args below meth c s₁ B hml hv
  obtain ⟨rfl, hsz, hP, hK, hD0⟩ := hv
  have hx := B.exec
  have hb := B.bytes
  have hr := B.returns
  have hts := atoms_spec (ws := wsX7_clear) B.pre
  have hown : s.vm.findClass RX7 = some m.cls := findClass_of_methodNamed B.named
  have hlocks := B.notSynchronized
  subst hsz
  have hD := hD0.self (sz := s.heap.size)
  generalize hAe : va_A [(bt, .inr (5, [.ref ta, .ref wi, .ref se, .ref re, .int eb, .int sn, .int sp, .int sa, .int sm])), (se, .inr (1, [.int s0, .int s1, .int s2, .ref fl, .int s4, .ref un, .int s6, .int s7, .int s8, .int s9])), (fl, .inr (2, [.ref fn, .ref fk, .ref fd, .ref fs, .ref fz, .int 0])), (wi, .inr (4, [.ref wb, .int 0]))] s.heap.size = A at hD ⊢
  have hA : ∀ q : Nat, s.heap.size ≤ q → A q := fun q h => by rw [← hAe]; exact Or.inr h
  have hS : va_S A s.heap s.heap [] := va_S.rf
  have hP : va_P (dC, dI) vwCl [(bt, .inr (5, [.ref ta, .ref wi, .ref se, .ref re, .int eb, .int sn, .int sp, .int sa, .int sm])), (se, .inr (1, [.int s0, .int s1, .int s2, .ref fl, .int s4, .ref un, .int s6, .int s7, .int s8, .int s9])), (fl, .inr (2, [.ref fn, .ref fk, .ref fd, .ref fs, .ref fz, .int 0])), (wi, .inr (4, [.ref wb, .int 0]))] s.heap := hP
  have hl := lv_entry ([.ref bt]) (n := 1) (Nat.le_of_ble_eq_true rfl)
  rw [lg_entry_eq]
  generalize (lg_sl ([.ref bt]) ++ List.replicate (1 - (lg_sl ([.ref bt])).length) Slot.unset).toArray = ls at hl ⊢
  have hl : lv_has ls 1 [(0, .ref bt)] := hl
  have iX1 : ∀ w ∈ wsX10, w ∈ wsX7_clear := by decide +kernel
  have iX2 : ∀ w ∈ wsX20, w ∈ wsX7_clear := by decide +kernel
  have iX7 : ∀ w ∈ wsX70, w ∈ wsX7_clear := by decide +kernel
  refine lv_aload_n hx hb dX7_clear_0 rfl (lv_at hl 0 rfl) ?_
  have hPc := hP.sub (ws' := [(bt, .inr (5, [.ref ta, .ref wi, .ref se, .ref re, .int eb, .int sn, .int sp, .int sa, .int sm])), (wi, .inr (4, [.ref wb, .int 0]))]) [0, 3] rfl
  have hDc := hD.sub (ws' := [(bt, .inr (5, [.ref ta, .ref wi, .ref se, .ref re, .int eb, .int sn, .int sp, .int sa, .int sm])), (wi, .inr (4, [.ref wb, .int 0]))]) [0, 3] (by decide) rfl
  have hKc := hK.sub (tys' := []) [] rfl
  have hFc := va_free (wc := [(bt, .inr (5, [.ref ta, .ref wi, .ref se, .ref re, .int eb, .int sn, .int sp, .int sa, .int sm])), (wi, .inr (4, [.ref wb, .int 0]))]) hD hS hA [0, 3] rfl
  refine va_calli (va_runV (As := []) (rest := []) ⟨hx, hb, hml, hown, hts⟩ (k_isOn l dC dI bt ta wi se re eb sn sp sa sm wb 0 s.heap.size) (cwV 0 hts gX7_clear_X7_isOn rfl rfl rfl (by decide +kernel) ⟨Nat.le_of_ble_eq_true rfl, Nat.le_of_ble_eq_true rfl⟩) ⟨fun a U g mk q => by obtain ⟨q0, q1, qP, qK, qD⟩ := q; exact ⟨q0, q1, qP, va_K.moved (u := U) (U := U.calling g mk a) (Vm.Alike.refl U.vm) qK, qD⟩, va_recv hKc hPc (ci := 5) (q0 := 0) rfl rfl, fun U hU hW => ⟨rfl, by rw [hU], by rw [hU]; exact hPc, va_K.moved hW.alike hKc, hDc.weaken (fun _ _ _ _ => trivial)⟩⟩ rfl rfl hl.1 rfl (lv_room (Nat.le_of_ble_eq_true rfl)) dX7_clear_1 ⟨show 0 + 0 ≤ 0 by omega, show 0 + 0 ≤ 0 by omega⟩) hS (fun q _ h => hFc q h) hFc (fun r_1 u t H1 locs ht hvm hw hB hz1 hk1 hS => ?_)
  obtain ⟨hP1, hK1, hD1⟩ := hB
  rw [ht] at hP1
  have hK1 := va_K.moved hvm.symm hK1
  try dsimp only at hw
  obtain ⟨hP, hD⟩ := va_join (wr := [(se, .inr (1, [.int s0, .int s1, .int s2, .ref fl, .int s4, .ref un, .int s6, .int s7, .int s8, .int s9])), (fl, .inr (2, [.ref fn, .ref fk, .ref fd, .ref fs, .ref fz, .int 0]))]) (w1 := [(bt, .inr (5, [.ref ta, .ref wi, .ref se, .ref re, .int eb, .int sn, .int sp, .int sa, .int sm])), (wi, .inr (4, [.ref wb, .int 0]))]) hP hD [0, 3] [1, 2] rfl rfl (by decide) (by decide) hk1 hFc hP1 hD1
  have hK := (hK.sub (tys' := []) [] rfl).app hK1
  generalize H1 = H at hP hS ⊢
  have hK : va_K (dC, dI) vwCl [] s := hK
  have hP : va_P (dC, dI) vwCl [(se, .inr (1, [.int s0, .int s1, .int s2, .ref fl, .int s4, .ref un, .int s6, .int s7, .int s8, .int s9])), (fl, .inr (2, [.ref fn, .ref fk, .ref fd, .ref fs, .ref fz, .int 0])), (bt, .inr (5, [.ref ta, .ref wi, .ref se, .ref re, .int eb, .int sn, .int sp, .int sa, .int sm])), (wi, .inr (4, [.ref wb, .int 0]))] H := hP
  have hD : va_D A [(se, .inr (1, [.int s0, .int s1, .int s2, .ref fl, .int s4, .ref un, .int s6, .int s7, .int s8, .int s9])), (fl, .inr (2, [.ref fn, .ref fk, .ref fd, .ref fs, .ref fz, .int 0])), (bt, .inr (5, [.ref ta, .ref wi, .ref se, .ref re, .int eb, .int sn, .int sp, .int sa, .int sm])), (wi, .inr (4, [.ref wb, .int 0]))] := hD
  obtain rfl : r_1 = 0 := hw.1 (by decide)
  refine lv_if_eq (tgt := 9) hx hb dX7_clear_4 (by decide) (fun c_2 => ?_) (fun c_2 => absurd (by decide) c_2)
  refine lv_aload_n hx hb dX7_clear_9 rfl (lv_at hl 0 rfl) ?_
  refine va_get (D := (dC, dI)) (ci := 5) (v := .ref se) (C := RX7) (T := TX7) (N := 9) hx hb hts iX7 hown hK hP 2 rfl rfl 2 (by decide) (hts (.fieldLink RX7 26 "BatchTransfer" "sender" "LBatchTransfer$Sender;") (by decide +kernel)) (fun _ h9 => h9) rfl dX7_clear_10 ?_
  refine va_get (D := (dC, dI)) (ci := 1) (v := .ref fl) (C := RX1) (T := TX1) (N := 10) hx hb hts iX1 hown hK hP 0 rfl rfl 3 (by decide) (hts (.fieldLink RX7 53 "BatchTransfer$Sender" "files" "LBatchTransfer$Shelf;") (by decide +kernel)) (fun _ h9 => h9) rfl dX7_clear_13 ?_
  refine lv_iconst (v := 0) hx hb dX7_clear_16 (by decide) ?_
  refine va_put (D := (dC, dI)) (ci := 2) (v := .int 0) (ty := .int) (C := RX2) (T := TX2) (N := 6) hx hb hts iX2 tyX2 tyX2_ok nmX2 hown hK hP hD hS 1 rfl rfl 5 (by decide) (hts (.fieldLink RX7 73 "BatchTransfer$Shelf" "count" "I") (by decide +kernel)) (fun _ h9 => h9) rfl (by decide +kernel) rfl rfl (Nat.le_of_ble_eq_true rfl) dX7_clear_17 (fun H locs hP hD hS => ?_)
  have hP : va_P (dC, dI) vwCl [(se, .inr (1, [.int s0, .int s1, .int s2, .ref fl, .int s4, .ref un, .int s6, .int s7, .int s8, .int s9])), (fl, .inr (2, [.ref fn, .ref fk, .ref fd, .ref fs, .ref fz, .int 0])), (bt, .inr (5, [.ref ta, .ref wi, .ref se, .ref re, .int eb, .int sn, .int sp, .int sa, .int sm])), (wi, .inr (4, [.ref wb, .int 0]))] H := hP
  have hD : va_D A [(se, .inr (1, [.int s0, .int s1, .int s2, .ref fl, .int s4, .ref un, .int s6, .int s7, .int s8, .int s9])), (fl, .inr (2, [.ref fn, .ref fk, .ref fd, .ref fs, .ref fz, .int 0])), (bt, .inr (5, [.ref ta, .ref wi, .ref se, .ref re, .int eb, .int sn, .int sp, .int sa, .int sm])), (wi, .inr (4, [.ref wb, .int 0]))] := hD
  refine lv_iconst (v := 1) hx hb dX7_clear_20 (by decide) ?_
  exact W.zret (v := 1) hx hb hr rfl (fun t ht hW => ⟨⟨1, (), rfl, rfl, trivial⟩, hS.F ht⟩) hS.2.2 dX7_clear_21

set_option maxHeartbeats 4000000 in
set_option maxRecDepth 100000 in
theorem k_begin (l : Launch) (dC : Nat → ClassId) (dI : Nat → Nat → Nat) (bt ta wi se re : Nat) (eb sn sp sa sm : Int32) (fl un fn fk fd fs fz : Nat) (s0 s1 s2 s4 s6 s7 s8 s9 n0 : Int32) (sz : Nat) : Met l yX7_begin wsX7_begin ({ frames := 0, cells := 0, slots := 0, locals := 0 }) (va_Pc [.ref bt, .int n0] (fun U => U.heap.size = sz ∧ va_P (dC, dI) vwCl [(bt, .inr (5, [.ref ta, .ref wi, .ref se, .ref re, .int eb, .int sn, .int sp, .int sa, .int sm])), (se, .inr (1, [.int s0, .int s1, .int s2, .ref fl, .int s4, .ref un, .int s6, .int s7, .int s8, .int s9])), (fl, .inr (2, [.ref fn, .ref fk, .ref fd, .ref fs, .ref fz, .int 0]))] U.heap ∧ va_K (dC, dI) vwCl [] U ∧ va_D (fun _ => True) [(bt, .inr (5, [.ref ta, .ref wi, .ref se, .ref re, .int eb, .int sn, .int sp, .int sa, .int sm])), (se, .inr (1, [.int s0, .int s1, .int s2, .ref fl, .int s4, .ref un, .int s6, .int s7, .int s8, .int s9])), (fl, .inr (2, [.ref fn, .ref fk, .ref fd, .ref fs, .ref fz, .int 0]))])) (va_Qi (fun (r : Int32) (_ : Unit) => r = 0) (fun (_ : Unit) (_ : State) => True) (va_A [(bt, .inr (5, [.ref ta, .ref wi, .ref se, .ref re, .int eb, .int sn, .int sp, .int sa, .int sm])), (se, .inr (1, [.int s0, .int s1, .int s2, .ref fl, .int s4, .ref un, .int s6, .int s7, .int s8, .int s9])), (fl, .inr (2, [.ref fn, .ref fk, .ref fd, .ref fs, .ref fz, .int 0]))] sz)) 0 0 (va_A [(bt, .inr (5, [.ref ta, .ref wi, .ref se, .ref re, .int eb, .int sn, .int sp, .int sa, .int sm])), (se, .inr (1, [.int s0, .int s1, .int s2, .ref fl, .int s4, .ref un, .int s6, .int s7, .int s8, .int s9])), (fl, .inr (2, [.ref fn, .ref fk, .ref fd, .ref fs, .ref fz, .int 0]))] sz) := by
  refine Met.ofW (cc := cX7_begin) (maxL := 2) (ret := (some .boolean)) (by decide) rfl ?_
  intro p e s m args below meth c s₁ B hml hv
  obtain ⟨rfl, hsz, hP, hK, hD0⟩ := hv
  have hx := B.exec
  have hb := B.bytes
  have hr := B.returns
  have hts := atoms_spec (ws := wsX7_begin) B.pre
  have hown : s.vm.findClass RX7 = some m.cls := findClass_of_methodNamed B.named
  have hlocks := B.notSynchronized
  subst hsz
  have hD := hD0.self (sz := s.heap.size)
  generalize hAe : va_A [(bt, .inr (5, [.ref ta, .ref wi, .ref se, .ref re, .int eb, .int sn, .int sp, .int sa, .int sm])), (se, .inr (1, [.int s0, .int s1, .int s2, .ref fl, .int s4, .ref un, .int s6, .int s7, .int s8, .int s9])), (fl, .inr (2, [.ref fn, .ref fk, .ref fd, .ref fs, .ref fz, .int 0]))] s.heap.size = A at hD ⊢
  have hA : ∀ q : Nat, s.heap.size ≤ q → A q := fun q h => by rw [← hAe]; exact Or.inr h
  have hS : va_S A s.heap s.heap [] := va_S.rf
  have hP : va_P (dC, dI) vwCl [(bt, .inr (5, [.ref ta, .ref wi, .ref se, .ref re, .int eb, .int sn, .int sp, .int sa, .int sm])), (se, .inr (1, [.int s0, .int s1, .int s2, .ref fl, .int s4, .ref un, .int s6, .int s7, .int s8, .int s9])), (fl, .inr (2, [.ref fn, .ref fk, .ref fd, .ref fs, .ref fz, .int 0]))] s.heap := hP
  have hl := lv_entry ([.ref bt, .int n0]) (n := 2) (Nat.le_of_ble_eq_true rfl)
  rw [lg_entry_eq]
  generalize (lg_sl ([.ref bt, .int n0]) ++ List.replicate (2 - (lg_sl ([.ref bt, .int n0])).length) Slot.unset).toArray = ls at hl ⊢
  have hl : lv_has ls 2 [(0, .ref bt), (1, .int n0)] := hl
  have iX1 : ∀ w ∈ wsX10, w ∈ wsX7_begin := by decide +kernel
  have iX2 : ∀ w ∈ wsX20, w ∈ wsX7_begin := by decide +kernel
  have iX7 : ∀ w ∈ wsX70, w ∈ wsX7_begin := by decide +kernel
  refine lv_aload_n hx hb dX7_begin_0 rfl (lv_at hl 0 rfl) ?_
  refine va_get (D := (dC, dI)) (ci := 5) (v := .ref se) (C := RX7) (T := TX7) (N := 9) hx hb hts iX7 hown hK hP 0 rfl rfl 2 (by decide) (hts (.fieldLink RX7 26 "BatchTransfer" "sender" "LBatchTransfer$Sender;") (by decide +kernel)) (fun _ h9 => h9) rfl dX7_begin_1 ?_
  refine va_get (D := (dC, dI)) (ci := 1) (v := .ref fl) (C := RX1) (T := TX1) (N := 10) hx hb hts iX1 hown hK hP 1 rfl rfl 3 (by decide) (hts (.fieldLink RX7 53 "BatchTransfer$Sender" "files" "LBatchTransfer$Shelf;") (by decide +kernel)) (fun _ h9 => h9) rfl dX7_begin_4 ?_
  refine va_get (D := (dC, dI)) (ci := 2) (v := .int 0) (C := RX2) (T := TX2) (N := 6) hx hb hts iX2 hown hK hP 2 rfl rfl 5 (by decide) (hts (.fieldLink RX7 73 "BatchTransfer$Shelf" "count" "I") (by decide +kernel)) (fun _ h9 => h9) rfl dX7_begin_7 ?_
  refine lv_if_eq (tgt := 22) hx hb dX7_begin_10 (by decide) (fun c_1 => ?_) (fun c_1 => absurd (by decide) c_1)
  refine lv_iconst (v := 0) hx hb dX7_begin_22 (by decide) ?_
  exact W.zret (v := 0) hx hb hr rfl (fun t ht hW => ⟨⟨0, (), rfl, rfl, trivial⟩, hS.F ht⟩) hS.2.2 dX7_begin_23

set_option maxHeartbeats 4000000 in
set_option maxRecDepth 100000 in
theorem k_spoil (l : Launch) (dC : Nat → ClassId) (dI : Nat → Nat → Nat) (bt ta wi se re : Nat) (eb sn sp sa sm : Int32) (n0 n1 : Int32) (sz : Nat) : Met l yX7_spoil wsX7_spoil ({ frames := 0, cells := 0, slots := 0, locals := 0 }) (va_Pc [.ref bt, .int n0, .int n1] (fun U => U.heap.size = sz ∧ va_P (dC, dI) vwCl [(bt, .inr (5, [.ref ta, .ref wi, .ref se, .ref re, .int eb, .int sn, .int sp, .int sa, .int sm]))] U.heap ∧ va_K (dC, dI) vwCl [] U ∧ va_D (fun _ => True) [(bt, .inr (5, [.ref ta, .ref wi, .ref se, .ref re, .int eb, .int sn, .int sp, .int sa, .int sm]))])) (va_Qv (fun (_ : Unit) => True) (fun (_ : Unit) (_ : State) => True) (va_A [(bt, .inr (5, [.ref ta, .ref wi, .ref se, .ref re, .int eb, .int sn, .int sp, .int sa, .int sm]))] sz)) 0 0 (va_A [(bt, .inr (5, [.ref ta, .ref wi, .ref se, .ref re, .int eb, .int sn, .int sp, .int sa, .int sm]))] sz) := by
  refine Met.ofW (cc := cX7_spoil) (maxL := 3) (ret := none) (by decide) rfl ?_
  intro p e s m args below meth c s₁ B hml hv
  obtain ⟨rfl, hsz, hP, hK, hD0⟩ := hv
  have hx := B.exec
  have hb := B.bytes
  have hr := B.returns
  have hts := atoms_spec (ws := wsX7_spoil) B.pre
  have hown : s.vm.findClass RX7 = some m.cls := findClass_of_methodNamed B.named
  have hlocks := B.notSynchronized
  subst hsz
  have hD := hD0.self (sz := s.heap.size)
  generalize hAe : va_A [(bt, .inr (5, [.ref ta, .ref wi, .ref se, .ref re, .int eb, .int sn, .int sp, .int sa, .int sm]))] s.heap.size = A at hD ⊢
  have hA : ∀ q : Nat, s.heap.size ≤ q → A q := fun q h => by rw [← hAe]; exact Or.inr h
  have hS : va_S A s.heap s.heap [] := va_S.rf
  have hP : va_P (dC, dI) vwCl [(bt, .inr (5, [.ref ta, .ref wi, .ref se, .ref re, .int eb, .int sn, .int sp, .int sa, .int sm]))] s.heap := hP
  have hl := lv_entry ([.ref bt, .int n0, .int n1]) (n := 3) (Nat.le_of_ble_eq_true rfl)
  rw [lg_entry_eq]
  generalize (lg_sl ([.ref bt, .int n0, .int n1]) ++ List.replicate (3 - (lg_sl ([.ref bt, .int n0, .int n1])).length) Slot.unset).toArray = ls at hl ⊢
  have hl : lv_has ls 3 [(0, .ref bt), (1, .int n0), (2, .int n1)] := hl
  have iX7 : ∀ w ∈ wsX70, w ∈ wsX7_spoil := by decide +kernel
  refine lv_aload_n hx hb dX7_spoil_0 rfl (lv_at hl 0 rfl) ?_
  refine lv_iconst (v := 1) hx hb dX7_spoil_1 (by decide) ?_
  refine va_put (D := (dC, dI)) (ci := 5) (v := .int 1) (ty := .boolean) (C := RX7) (T := TX7) (N := 9) hx hb hts iX7 tyX7 tyX7_ok nmX7 hown hK hP hD hS 0 rfl rfl 6 (by decide) (hts (.fieldLink RX7 104 "BatchTransfer" "spoilTold" "Z") (by decide +kernel)) (fun _ h9 => h9) rfl (by decide +kernel) rfl rfl (Nat.le_of_ble_eq_true rfl) dX7_spoil_2 (fun H locs hP hD hS => ?_)
  have hP : va_P (dC, dI) vwCl [(bt, .inr (5, [.ref ta, .ref wi, .ref se, .ref re, .int eb, .int sn, .int 1, .int sa, .int sm]))] H := hP
  have hD : va_D A [(bt, .inr (5, [.ref ta, .ref wi, .ref se, .ref re, .int eb, .int sn, .int 1, .int sa, .int sm]))] := hD
  refine lv_aload_n hx hb dX7_spoil_5 rfl (lv_at hl 0 rfl) ?_
  refine lv_iload_n hx hb dX7_spoil_6 rfl (lv_at hl 1 rfl) ?_
  refine va_put (D := (dC, dI)) (ci := 5) (v := .int n0) (ty := .int) (C := RX7) (T := TX7) (N := 9) hx hb hts iX7 tyX7 tyX7_ok nmX7 hown hK hP hD hS 0 rfl rfl 7 (by decide) (hts (.fieldLink RX7 107 "BatchTransfer" "spoilAt" "I") (by decide +kernel)) (fun _ h9 => h9) rfl (by decide +kernel) rfl rfl (Nat.le_of_ble_eq_true rfl) dX7_spoil_7 (fun H locs hP hD hS => ?_)
  have hP : va_P (dC, dI) vwCl [(bt, .inr (5, [.ref ta, .ref wi, .ref se, .ref re, .int eb, .int sn, .int 1, .int n0, .int sm]))] H := hP
  have hD : va_D A [(bt, .inr (5, [.ref ta, .ref wi, .ref se, .ref re, .int eb, .int sn, .int 1, .int n0, .int sm]))] := hD
  refine lv_aload_n hx hb dX7_spoil_10 rfl (lv_at hl 0 rfl) ?_
  refine lv_iload_n hx hb dX7_spoil_11 rfl (lv_at hl 2 rfl) ?_
  refine lv_sipush (v := 255) hx hb dX7_spoil_12 (by decide) ?_
  refine lv_iand hx hb dX7_spoil_15 ?_
  refine lv_topi (fun x_1 ex_1 => ?_)
  refine va_put (D := (dC, dI)) (ci := 5) (v := .int x_1) (ty := .int) (C := RX7) (T := TX7) (N := 9) hx hb hts iX7 tyX7 tyX7_ok nmX7 hown hK hP hD hS 0 rfl rfl 8 (by decide) (hts (.fieldLink RX7 110 "BatchTransfer" "spoilMask" "I") (by decide +kernel)) (fun _ h9 => h9) rfl (by decide +kernel) rfl rfl (Nat.le_of_ble_eq_true rfl) dX7_spoil_16 (fun H locs hP hD hS => ?_)
  have hP : va_P (dC, dI) vwCl [(bt, .inr (5, [.ref ta, .ref wi, .ref se, .ref re, .int eb, .int sn, .int 1, .int n0, .int x_1]))] H := hP
  have hD : va_D A [(bt, .inr (5, [.ref ta, .ref wi, .ref se, .ref re, .int eb, .int sn, .int 1, .int n0, .int x_1]))] := hD
  exact W.vret hx hb hr (fun t ht hW => ⟨⟨(), rfl, trivial, trivial⟩, hS.F ht⟩) hS.2.2 dX7_spoil_19

set_option maxHeartbeats 4000000 in
set_option maxRecDepth 100000 in
theorem k_step (l : Launch) (dC : Nat → ClassId) (dI : Nat → Nat → Nat) (bt ta wi se re : Nat) (eb sn sp sa sm : Int32) (wb : Nat) (sz : Nat) : Met l yX7_step wsX7_step ({ frames := 1, cells := 0, slots := 0, locals := 20 }) (va_Pc [.ref bt] (fun U => U.heap.size = sz ∧ va_P (dC, dI) vwCl [(bt, .inr (5, [.ref ta, .ref wi, .ref se, .ref re, .int eb, .int sn, .int sp, .int sa, .int sm])), (wi, .inr (4, [.ref wb, .int 0]))] U.heap ∧ va_K (dC, dI) vwCl [] U ∧ va_D (fun _ => True) [(bt, .inr (5, [.ref ta, .ref wi, .ref se, .ref re, .int eb, .int sn, .int sp, .int sa, .int sm])), (wi, .inr (4, [.ref wb, .int 0]))])) (va_Qi (fun (r : Int32) (_ : Unit) => r = -1) (fun (_ : Unit) (_ : State) => True) (va_A [(bt, .inr (5, [.ref ta, .ref wi, .ref se, .ref re, .int eb, .int sn, .int sp, .int sa, .int sm])), (wi, .inr (4, [.ref wb, .int 0]))] sz)) 0 0 (va_A [(bt, .inr (5, [.ref ta, .ref wi, .ref se, .ref re, .int eb, .int sn, .int sp, .int sa, .int sm])), (wi, .inr (4, [.ref wb, .int 0]))] sz) := by
  refine Met.ofW (cc := cX7_step) (maxL := 1) (ret := (some .int)) (by decide) rfl ?_
  intro p e s m args below meth c s₁ B hml hv
  obtain ⟨rfl, hsz, hP, hK, hD0⟩ := hv
  have hx := B.exec
  have hb := B.bytes
  have hr := B.returns
  have hts := atoms_spec (ws := wsX7_step) B.pre
  have hown : s.vm.findClass RX7 = some m.cls := findClass_of_methodNamed B.named
  have hlocks := B.notSynchronized
  subst hsz
  have hD := hD0.self (sz := s.heap.size)
  generalize hAe : va_A [(bt, .inr (5, [.ref ta, .ref wi, .ref se, .ref re, .int eb, .int sn, .int sp, .int sa, .int sm])), (wi, .inr (4, [.ref wb, .int 0]))] s.heap.size = A at hD ⊢
  have hA : ∀ q : Nat, s.heap.size ≤ q → A q := fun q h => by rw [← hAe]; exact Or.inr h
  have hS : va_S A s.heap s.heap [] := va_S.rf
  have hP : va_P (dC, dI) vwCl [(bt, .inr (5, [.ref ta, .ref wi, .ref se, .ref re, .int eb, .int sn, .int sp, .int sa, .int sm])), (wi, .inr (4, [.ref wb, .int 0]))] s.heap := hP
  have hl := lv_entry ([.ref bt]) (n := 1) (Nat.le_of_ble_eq_true rfl)
  rw [lg_entry_eq]
  generalize (lg_sl ([.ref bt]) ++ List.replicate (1 - (lg_sl ([.ref bt])).length) Slot.unset).toArray = ls at hl ⊢
  have hl : lv_has ls 1 [(0, .ref bt)] := hl
  refine lv_aload_n hx hb dX7_step_0 rfl (lv_at hl 0 rfl) ?_
  have hPc := hP.sub (ws' := [(bt, .inr (5, [.ref ta, .ref wi, .ref se, .ref re, .int eb, .int sn, .int sp, .int sa, .int sm])), (wi, .inr (4, [.ref wb, .int 0]))]) [0, 1] rfl
  have hDc := hD.sub (ws' := [(bt, .inr (5, [.ref ta, .ref wi, .ref se, .ref re, .int eb, .int sn, .int sp, .int sa, .int sm])), (wi, .inr (4, [.ref wb, .int 0]))]) [0, 1] (by decide) rfl
  have hKc := hK.sub (tys' := []) [] rfl
  have hFc := va_free (wc := [(bt, .inr (5, [.ref ta, .ref wi, .ref se, .ref re, .int eb, .int sn, .int sp, .int sa, .int sm])), (wi, .inr (4, [.ref wb, .int 0]))]) hD hS hA [0, 1] rfl
  refine va_calli (va_runV (As := []) (rest := []) ⟨hx, hb, hml, hown, hts⟩ (k_isOn l dC dI bt ta wi se re eb sn sp sa sm wb 0 s.heap.size) (cwV 0 hts gX7_step_X7_isOn rfl rfl rfl (by decide +kernel) ⟨Nat.le_of_ble_eq_true rfl, Nat.le_of_ble_eq_true rfl⟩) ⟨fun a U g mk q => by obtain ⟨q0, q1, qP, qK, qD⟩ := q; exact ⟨q0, q1, qP, va_K.moved (u := U) (U := U.calling g mk a) (Vm.Alike.refl U.vm) qK, qD⟩, va_recv hKc hPc (ci := 5) (q0 := 0) rfl rfl, fun U hU hW => ⟨rfl, by rw [hU], by rw [hU]; exact hPc, va_K.moved hW.alike hKc, hDc.weaken (fun _ _ _ _ => trivial)⟩⟩ rfl rfl hl.1 rfl (lv_room (Nat.le_of_ble_eq_true rfl)) dX7_step_1 ⟨show 0 + 0 ≤ 0 by omega, show 0 + 0 ≤ 0 by omega⟩) hS (fun q _ h => hFc q h) hFc (fun r_1 u t H1 locs ht hvm hw hB hz1 hk1 hS => ?_)
  obtain ⟨hP1, hK1, hD1⟩ := hB
  rw [ht] at hP1
  have hK1 := va_K.moved hvm.symm hK1
  try dsimp only at hw
  obtain ⟨hP, hD⟩ := va_join (wr := []) (w1 := [(bt, .inr (5, [.ref ta, .ref wi, .ref se, .ref re, .int eb, .int sn, .int sp, .int sa, .int sm])), (wi, .inr (4, [.ref wb, .int 0]))]) hP hD [0, 1] [] rfl rfl (by decide) (by decide) hk1 hFc hP1 hD1
  have hK := (hK.sub (tys' := []) [] rfl).app hK1
  generalize H1 = H at hP hS ⊢
  have hK : va_K (dC, dI) vwCl [] s := hK
  have hP : va_P (dC, dI) vwCl [(bt, .inr (5, [.ref ta, .ref wi, .ref se, .ref re, .int eb, .int sn, .int sp, .int sa, .int sm])), (wi, .inr (4, [.ref wb, .int 0]))] H := hP
  have hD : va_D A [(bt, .inr (5, [.ref ta, .ref wi, .ref se, .ref re, .int eb, .int sn, .int sp, .int sa, .int sm])), (wi, .inr (4, [.ref wb, .int 0]))] := hD
  obtain rfl : r_1 = 0 := hw.1 (by decide)
  refine lv_if_ne (tgt := 9) hx hb dX7_step_4 (by decide) (fun c_2 => absurd (by decide) c_2) (fun c_2 => ?_)
  refine lv_iconst (v := (-1)) hx hb dX7_step_7 (by decide) ?_
  exact W.iret (v := (-1)) hx hb hr (fun t ht hW => ⟨⟨(-1), (), rfl, rfl, trivial⟩, hS.F ht⟩) hS.2.2 dX7_step_8

set_option maxHeartbeats 4000000 in
set_option maxRecDepth 100000 in
theorem k_line (l : Launch) (dC : Nat → ClassId) (dI : Nat → Nat → Nat) (bt ta wi se re : Nat) (eb sn sp sa sm : Int32) (wb : Nat) (sz : Nat) : Met l yX7_line wsX7_line ({ frames := 0, cells := 0, slots := 0, locals := 0 }) (va_Pc [.ref bt] (fun U => U.heap.size = sz ∧ va_P (dC, dI) vwCl [(bt, .inr (5, [.ref ta, .ref wi, .ref se, .ref re, .int eb, .int sn, .int sp, .int sa, .int sm])), (wi, .inr (4, [.ref wb, .int 0]))] U.heap ∧ va_K (dC, dI) vwCl [] U ∧ va_D (fun _ => True) [(bt, .inr (5, [.ref ta, .ref wi, .ref se, .ref re, .int eb, .int sn, .int sp, .int sa, .int sm])), (wi, .inr (4, [.ref wb, .int 0]))])) (va_Qi (fun (r : Int32) (_ : Unit) => r = 0) (fun (_ : Unit) (_ : State) => True) (va_A [(bt, .inr (5, [.ref ta, .ref wi, .ref se, .ref re, .int eb, .int sn, .int sp, .int sa, .int sm])), (wi, .inr (4, [.ref wb, .int 0]))] sz)) 0 0 (va_A [(bt, .inr (5, [.ref ta, .ref wi, .ref se, .ref re, .int eb, .int sn, .int sp, .int sa, .int sm])), (wi, .inr (4, [.ref wb, .int 0]))] sz) := by
  refine Met.ofW (cc := cX7_line) (maxL := 1) (ret := (some .int)) (by decide) rfl ?_
  intro p e s m args below meth c s₁ B hml hv
  obtain ⟨rfl, hsz, hP, hK, hD0⟩ := hv
  have hx := B.exec
  have hb := B.bytes
  have hr := B.returns
  have hts := atoms_spec (ws := wsX7_line) B.pre
  have hown : s.vm.findClass RX7 = some m.cls := findClass_of_methodNamed B.named
  have hlocks := B.notSynchronized
  subst hsz
  have hD := hD0.self (sz := s.heap.size)
  generalize hAe : va_A [(bt, .inr (5, [.ref ta, .ref wi, .ref se, .ref re, .int eb, .int sn, .int sp, .int sa, .int sm])), (wi, .inr (4, [.ref wb, .int 0]))] s.heap.size = A at hD ⊢
  have hA : ∀ q : Nat, s.heap.size ≤ q → A q := fun q h => by rw [← hAe]; exact Or.inr h
  have hS : va_S A s.heap s.heap [] := va_S.rf
  have hP : va_P (dC, dI) vwCl [(bt, .inr (5, [.ref ta, .ref wi, .ref se, .ref re, .int eb, .int sn, .int sp, .int sa, .int sm])), (wi, .inr (4, [.ref wb, .int 0]))] s.heap := hP
  have hl := lv_entry ([.ref bt]) (n := 1) (Nat.le_of_ble_eq_true rfl)
  rw [lg_entry_eq]
  generalize (lg_sl ([.ref bt]) ++ List.replicate (1 - (lg_sl ([.ref bt])).length) Slot.unset).toArray = ls at hl ⊢
  have hl : lv_has ls 1 [(0, .ref bt)] := hl
  have iX6 : ∀ w ∈ wsX60, w ∈ wsX7_line := by decide +kernel
  have iX7 : ∀ w ∈ wsX70, w ∈ wsX7_line := by decide +kernel
  refine lv_aload_n hx hb dX7_line_0 rfl (lv_at hl 0 rfl) ?_
  refine va_get (D := (dC, dI)) (ci := 5) (v := .ref wi) (C := RX7) (T := TX7) (N := 9) hx hb hts iX7 hown hK hP 0 rfl rfl 1 (by decide) (hts (.fieldLink RX7 19 "BatchTransfer" "wire" "LBatchTransfer$Wire;") (by decide +kernel)) (fun _ h9 => h9) rfl dX7_line_1 ?_
  refine va_get (D := (dC, dI)) (ci := 4) (v := .int 0) (C := RX6) (T := TX6) (N := 2) hx hb hts iX6 hown hK hP 1 rfl rfl 1 (by decide) (hts (.fieldLink RX7 124 "BatchTransfer$Wire" "length" "I") (by decide +kernel)) (fun _ h9 => h9) rfl dX7_line_4 ?_
  exact W.iret (v := 0) hx hb hr (fun t ht hW => ⟨⟨0, (), rfl, rfl, trivial⟩, hS.F ht⟩) hS.2.2 dX7_line_7

set_option maxHeartbeats 4000000 in
set_option maxRecDepth 100000 in
theorem k_state (l : Launch) (dC : Nat → ClassId) (dI : Nat → Nat → Nat) (bt ta wi se re : Nat) (sn sp sa sm : Int32) (n0 : Int32) (sz : Nat) : Met l yX7_state wsX7_state ({ frames := 0, cells := 0, slots := 0, locals := 0 }) (va_Pc [.ref bt, .int n0] (fun U => U.heap.size = sz ∧ va_P (dC, dI) vwCl [(bt, .inr (5, [.ref ta, .ref wi, .ref se, .ref re, .int 0, .int sn, .int sp, .int sa, .int sm]))] U.heap ∧ va_K (dC, dI) vwCl [] U ∧ va_D (fun _ => True) [(bt, .inr (5, [.ref ta, .ref wi, .ref se, .ref re, .int 0, .int sn, .int sp, .int sa, .int sm]))])) (va_Qi (fun (r : Int32) (_ : Unit) => r = -1) (fun (_ : Unit) (_ : State) => True) (va_A [(bt, .inr (5, [.ref ta, .ref wi, .ref se, .ref re, .int 0, .int sn, .int sp, .int sa, .int sm]))] sz)) 0 0 (va_A [(bt, .inr (5, [.ref ta, .ref wi, .ref se, .ref re, .int 0, .int sn, .int sp, .int sa, .int sm]))] sz) := by
  refine Met.ofW (cc := cX7_state) (maxL := 2) (ret := (some .int)) (by decide) rfl ?_
  intro p e s m args below meth c s₁ B hml hv
  obtain ⟨rfl, hsz, hP, hK, hD0⟩ := hv
  have hx := B.exec
  have hb := B.bytes
  have hr := B.returns
  have hts := atoms_spec (ws := wsX7_state) B.pre
  have hown : s.vm.findClass RX7 = some m.cls := findClass_of_methodNamed B.named
  have hlocks := B.notSynchronized
  subst hsz
  have hD := hD0.self (sz := s.heap.size)
  generalize hAe : va_A [(bt, .inr (5, [.ref ta, .ref wi, .ref se, .ref re, .int 0, .int sn, .int sp, .int sa, .int sm]))] s.heap.size = A at hD ⊢
  have hA : ∀ q : Nat, s.heap.size ≤ q → A q := fun q h => by rw [← hAe]; exact Or.inr h
  have hS : va_S A s.heap s.heap [] := va_S.rf
  have hP : va_P (dC, dI) vwCl [(bt, .inr (5, [.ref ta, .ref wi, .ref se, .ref re, .int 0, .int sn, .int sp, .int sa, .int sm]))] s.heap := hP
  have hl := lv_entry ([.ref bt, .int n0]) (n := 2) (Nat.le_of_ble_eq_true rfl)
  rw [lg_entry_eq]
  generalize (lg_sl ([.ref bt, .int n0]) ++ List.replicate (2 - (lg_sl ([.ref bt, .int n0])).length) Slot.unset).toArray = ls at hl ⊢
  have hl : lv_has ls 2 [(0, .ref bt), (1, .int n0)] := hl
  have iX7 : ∀ w ∈ wsX70, w ∈ wsX7_state := by decide +kernel
  refine lv_aload_n hx hb dX7_state_0 rfl (lv_at hl 0 rfl) ?_
  refine va_get (D := (dC, dI)) (ci := 5) (v := .int 0) (C := RX7) (T := TX7) (N := 9) hx hb hts iX7 hown hK hP 0 rfl rfl 4 (by decide) (hts (.fieldLink RX7 101 "BatchTransfer" "everBegun" "Z") (by decide +kernel)) (fun _ h9 => h9) rfl dX7_state_1 ?_
  refine lv_if_ne (tgt := 9) hx hb dX7_state_4 (by decide) (fun c_1 => absurd (by decide) c_1) (fun c_1 => ?_)
  refine lv_iconst (v := (-1)) hx hb dX7_state_7 (by decide) ?_
  exact W.iret (v := (-1)) hx hb hr (fun t ht hW => ⟨⟨(-1), (), rfl, rfl, trivial⟩, hS.F ht⟩) hS.2.2 dX7_state_8

set_option maxHeartbeats 4000000 in
set_option maxRecDepth 100000 in
theorem k_received (l : Launch) (dC : Nat → ClassId) (dI : Nat → Nat → Nat) (bt ta wi se re : Nat) (eb sn sp sa sm : Int32) (ar an ak ad az as_ : Nat) (r0 r1 r2 r4 r5 r6 r7 r8 : Int32) (sz : Nat) : Met l yX7_received wsX7_received ({ frames := 0, cells := 0, slots := 0, locals := 0 }) (va_Pc [.ref bt] (fun U => U.heap.size = sz ∧ va_P (dC, dI) vwCl [(bt, .inr (5, [.ref ta, .ref wi, .ref se, .ref re, .int eb, .int sn, .int sp, .int sa, .int sm])), (re, .inr (0, [.int r0, .int r1, .int r2, .ref ar, .int r4, .int r5, .int r6, .int r7, .int r8])), (ar, .inr (2, [.ref an, .ref ak, .ref ad, .ref as_, .ref az, .int 0]))] U.heap ∧ va_K (dC, dI) vwCl [] U ∧ va_D (fun _ => True) [(bt, .inr (5, [.ref ta, .ref wi, .ref se, .ref re, .int eb, .int sn, .int sp, .int sa, .int sm])), (re, .inr (0, [.int r0, .int r1, .int r2, .ref ar, .int r4, .int r5, .int r6, .int r7, .int r8])), (ar, .inr (2, [.ref an, .ref ak, .ref ad, .ref as_, .ref az, .int 0]))])) (va_Qi (fun (r : Int32) (_ : Unit) => r = 0) (fun (_ : Unit) (_ : State) => True) (va_A [(bt, .inr (5, [.ref ta, .ref wi, .ref se, .ref re, .int eb, .int sn, .int sp, .int sa, .int sm])), (re, .inr (0, [.int r0, .int r1, .int r2, .ref ar, .int r4, .int r5, .int r6, .int r7, .int r8])), (ar, .inr (2, [.ref an, .ref ak, .ref ad, .ref as_, .ref az, .int 0]))] sz)) 0 0 (va_A [(bt, .inr (5, [.ref ta, .ref wi, .ref se, .ref re, .int eb, .int sn, .int sp, .int sa, .int sm])), (re, .inr (0, [.int r0, .int r1, .int r2, .ref ar, .int r4, .int r5, .int r6, .int r7, .int r8])), (ar, .inr (2, [.ref an, .ref ak, .ref ad, .ref as_, .ref az, .int 0]))] sz) := by
  refine Met.ofW (cc := cX7_received) (maxL := 1) (ret := (some .int)) (by decide) rfl ?_
  intro p e s m args below meth c s₁ B hml hv
  obtain ⟨rfl, hsz, hP, hK, hD0⟩ := hv
  have hx := B.exec
  have hb := B.bytes
  have hr := B.returns
  have hts := atoms_spec (ws := wsX7_received) B.pre
  have hown : s.vm.findClass RX7 = some m.cls := findClass_of_methodNamed B.named
  have hlocks := B.notSynchronized
  subst hsz
  have hD := hD0.self (sz := s.heap.size)
  generalize hAe : va_A [(bt, .inr (5, [.ref ta, .ref wi, .ref se, .ref re, .int eb, .int sn, .int sp, .int sa, .int sm])), (re, .inr (0, [.int r0, .int r1, .int r2, .ref ar, .int r4, .int r5, .int r6, .int r7, .int r8])), (ar, .inr (2, [.ref an, .ref ak, .ref ad, .ref as_, .ref az, .int 0]))] s.heap.size = A at hD ⊢
  have hA : ∀ q : Nat, s.heap.size ≤ q → A q := fun q h => by rw [← hAe]; exact Or.inr h
  have hS : va_S A s.heap s.heap [] := va_S.rf
  have hP : va_P (dC, dI) vwCl [(bt, .inr (5, [.ref ta, .ref wi, .ref se, .ref re, .int eb, .int sn, .int sp, .int sa, .int sm])), (re, .inr (0, [.int r0, .int r1, .int r2, .ref ar, .int r4, .int r5, .int r6, .int r7, .int r8])), (ar, .inr (2, [.ref an, .ref ak, .ref ad, .ref as_, .ref az, .int 0]))] s.heap := hP
  have hl := lv_entry ([.ref bt]) (n := 1) (Nat.le_of_ble_eq_true rfl)
  rw [lg_entry_eq]
  generalize (lg_sl ([.ref bt]) ++ List.replicate (1 - (lg_sl ([.ref bt])).length) Slot.unset).toArray = ls at hl ⊢
  have hl : lv_has ls 1 [(0, .ref bt)] := hl
  have iX0 : ∀ w ∈ wsX00, w ∈ wsX7_received := by decide +kernel
  have iX2 : ∀ w ∈ wsX20, w ∈ wsX7_received := by decide +kernel
  have iX7 : ∀ w ∈ wsX70, w ∈ wsX7_received := by decide +kernel
  refine lv_aload_n hx hb dX7_received_0 rfl (lv_at hl 0 rfl) ?_
  refine va_get (D := (dC, dI)) (ci := 5) (v := .ref re) (C := RX7) (T := TX7) (N := 9) hx hb hts iX7 hown hK hP 0 rfl rfl 3 (by decide) (hts (.fieldLink RX7 33 "BatchTransfer" "receiver" "LBatchTransfer$Receiver;") (by decide +kernel)) (fun _ h9 => h9) rfl dX7_received_1 ?_
  refine va_get (D := (dC, dI)) (ci := 0) (v := .ref ar) (C := RX0) (T := TX0) (N := 9) hx hb hts iX0 hown hK hP 1 rfl rfl 3 (by decide) (hts (.fieldLink RX7 132 "BatchTransfer$Receiver" "arrived" "LBatchTransfer$Shelf;") (by decide +kernel)) (fun _ h9 => h9) rfl dX7_received_4 ?_
  refine va_get (D := (dC, dI)) (ci := 2) (v := .int 0) (C := RX2) (T := TX2) (N := 6) hx hb hts iX2 hown hK hP 2 rfl rfl 5 (by decide) (hts (.fieldLink RX7 73 "BatchTransfer$Shelf" "count" "I") (by decide +kernel)) (fun _ h9 => h9) rfl dX7_received_7 ?_
  exact W.iret (v := 0) hx hb hr (fun t ht hW => ⟨⟨0, (), rfl, rfl, trivial⟩, hS.F ht⟩) hS.2.2 dX7_received_10

set_option maxHeartbeats 4000000 in
set_option maxRecDepth 100000 in
theorem k_size (l : Launch) (dC : Nat → ClassId) (dI : Nat → Nat → Nat) (bt ta wi se re : Nat) (eb sn sp sa sm : Int32) (ar an ak ad as_ az : Nat) (r0 r1 r2 r4 r5 r6 r7 r8 : Int32) (n0 : Int32) (sz : Nat) : Met l yX7_size wsX7_size ({ frames := 1, cells := 0, slots := 0, locals := 21 }) (va_Pc [.ref bt, .int n0] (fun U => U.heap.size = sz ∧ va_P (dC, dI) vwCl [(bt, .inr (5, [.ref ta, .ref wi, .ref se, .ref re, .int eb, .int sn, .int sp, .int sa, .int sm])), (re, .inr (0, [.int r0, .int r1, .int r2, .ref ar, .int r4, .int r5, .int r6, .int r7, .int r8])), (ar, .inr (2, [.ref an, .ref ak, .ref ad, .ref as_, .ref az, .int 0]))] U.heap ∧ va_K (dC, dI) vwCl [] U ∧ va_D (fun _ => True) [(bt, .inr (5, [.ref ta, .ref wi, .ref se, .ref re, .int eb, .int sn, .int sp, .int sa, .int sm])), (re, .inr (0, [.int r0, .int r1, .int r2, .ref ar, .int r4, .int r5, .int r6, .int r7, .int r8])), (ar, .inr (2, [.ref an, .ref ak, .ref ad, .ref as_, .ref az, .int 0]))])) (va_Qi (fun (r : Int32) (_ : Unit) => r = -1) (fun (_ : Unit) (_ : State) => True) (va_A [(bt, .inr (5, [.ref ta, .ref wi, .ref se, .ref re, .int eb, .int sn, .int sp, .int sa, .int sm])), (re, .inr (0, [.int r0, .int r1, .int r2, .ref ar, .int r4, .int r5, .int r6, .int r7, .int r8])), (ar, .inr (2, [.ref an, .ref ak, .ref ad, .ref as_, .ref az, .int 0]))] sz)) 0 0 (va_A [(bt, .inr (5, [.ref ta, .ref wi, .ref se, .ref re, .int eb, .int sn, .int sp, .int sa, .int sm])), (re, .inr (0, [.int r0, .int r1, .int r2, .ref ar, .int r4, .int r5, .int r6, .int r7, .int r8])), (ar, .inr (2, [.ref an, .ref ak, .ref ad, .ref as_, .ref az, .int 0]))] sz) := by
  refine Met.ofW (cc := cX7_size) (maxL := 2) (ret := (some .int)) (by decide) rfl ?_
  intro p e s m args below meth c s₁ B hml hv
  obtain ⟨rfl, hsz, hP, hK, hD0⟩ := hv
  have hx := B.exec
  have hb := B.bytes
  have hr := B.returns
  have hts := atoms_spec (ws := wsX7_size) B.pre
  have hown : s.vm.findClass RX7 = some m.cls := findClass_of_methodNamed B.named
  have hlocks := B.notSynchronized
  subst hsz
  have hD := hD0.self (sz := s.heap.size)
  generalize hAe : va_A [(bt, .inr (5, [.ref ta, .ref wi, .ref se, .ref re, .int eb, .int sn, .int sp, .int sa, .int sm])), (re, .inr (0, [.int r0, .int r1, .int r2, .ref ar, .int r4, .int r5, .int r6, .int r7, .int r8])), (ar, .inr (2, [.ref an, .ref ak, .ref ad, .ref as_, .ref az, .int 0]))] s.heap.size = A at hD ⊢
  have hA : ∀ q : Nat, s.heap.size ≤ q → A q := fun q h => by rw [← hAe]; exact Or.inr h
  have hS : va_S A s.heap s.heap [] := va_S.rf
  have hP : va_P (dC, dI) vwCl [(bt, .inr (5, [.ref ta, .ref wi, .ref se, .ref re, .int eb, .int sn, .int sp, .int sa, .int sm])), (re, .inr (0, [.int r0, .int r1, .int r2, .ref ar, .int r4, .int r5, .int r6, .int r7, .int r8])), (ar, .inr (2, [.ref an, .ref ak, .ref ad, .ref as_, .ref az, .int 0]))] s.heap := hP
  have hl := lv_entry ([.ref bt, .int n0]) (n := 2) (Nat.le_of_ble_eq_true rfl)
  rw [lg_entry_eq]
  generalize (lg_sl ([.ref bt, .int n0]) ++ List.replicate (2 - (lg_sl ([.ref bt, .int n0])).length) Slot.unset).toArray = ls at hl ⊢
  have hl : lv_has ls 2 [(0, .ref bt), (1, .int n0)] := hl
  have iX0 : ∀ w ∈ wsX00, w ∈ wsX7_size := by decide +kernel
  have iX7 : ∀ w ∈ wsX70, w ∈ wsX7_size := by decide +kernel
  refine lv_aload_n hx hb dX7_size_0 rfl (lv_at hl 0 rfl) ?_
  refine va_get (D := (dC, dI)) (ci := 5) (v := .ref re) (C := RX7) (T := TX7) (N := 9) hx hb hts iX7 hown hK hP 0 rfl rfl 3 (by decide) (hts (.fieldLink RX7 33 "BatchTransfer" "receiver" "LBatchTransfer$Receiver;") (by decide +kernel)) (fun _ h9 => h9) rfl dX7_size_1 ?_
  refine va_get (D := (dC, dI)) (ci := 0) (v := .ref ar) (C := RX0) (T := TX0) (N := 9) hx hb hts iX0 hown hK hP 1 rfl rfl 3 (by decide) (hts (.fieldLink RX7 132 "BatchTransfer$Receiver" "arrived" "LBatchTransfer$Shelf;") (by decide +kernel)) (fun _ h9 => h9) rfl dX7_size_4 ?_
  refine lv_iload_n hx hb dX7_size_7 rfl (lv_at hl 1 rfl) ?_
  have hPc := hP.sub (ws' := [(ar, .inr (2, [.ref an, .ref ak, .ref ad, .ref as_, .ref az, .int 0]))]) [2] rfl
  have hDc := hD.sub (ws' := [(ar, .inr (2, [.ref an, .ref ak, .ref ad, .ref as_, .ref az, .int 0]))]) [2] (by decide) rfl
  have hKc := hK.sub (tys' := []) [] rfl
  have hFc := va_free (wc := [(ar, .inr (2, [.ref an, .ref ak, .ref ad, .ref as_, .ref az, .int 0]))]) hD hS hA [2] rfl
  refine va_calli (va_runV (As := [.int n0]) (rest := []) ⟨hx, hb, hml, hown, hts⟩ (k_has l dC dI ar an ak ad as_ az 0 n0 s.heap.size) (cwV 1 hts gX7_size_X2_has rfl rfl rfl (by decide +kernel) ⟨Nat.le_of_ble_eq_true rfl, Nat.le_of_ble_eq_true rfl⟩) ⟨fun a U g mk q => by obtain ⟨q0, q1, qP, qK, qD⟩ := q; exact ⟨q0, q1, qP, va_K.moved (u := U) (U := U.calling g mk a) (Vm.Alike.refl U.vm) qK, qD⟩, va_recv hKc hPc (ci := 2) (q0 := 0) rfl rfl, fun U hU hW => ⟨rfl, by rw [hU], by rw [hU]; exact hPc, va_K.moved hW.alike hKc, hDc.weaken (fun _ _ _ _ => trivial)⟩⟩ rfl rfl hl.1 rfl (lv_room (Nat.le_of_ble_eq_true rfl)) dX7_size_8 ⟨show 0 + 0 ≤ 0 by omega, show 0 + 0 ≤ 0 by omega⟩) hS (fun q _ h => hFc q h) hFc (fun r_1 u t H1 locs ht hvm hw hB hz1 hk1 hS => ?_)
  obtain ⟨hP1, hK1, hD1⟩ := hB
  rw [ht] at hP1
  have hK1 := va_K.moved hvm.symm hK1
  try dsimp only at hw
  obtain ⟨hP, hD⟩ := va_join (wr := [(bt, .inr (5, [.ref ta, .ref wi, .ref se, .ref re, .int eb, .int sn, .int sp, .int sa, .int sm])), (re, .inr (0, [.int r0, .int r1, .int r2, .ref ar, .int r4, .int r5, .int r6, .int r7, .int r8]))]) (w1 := [(ar, .inr (2, [.ref an, .ref ak, .ref ad, .ref as_, .ref az, .int 0]))]) hP hD [2] [0, 1] rfl rfl (by decide) (by decide) hk1 hFc hP1 hD1
  have hK := (hK.sub (tys' := []) [] rfl).app hK1
  generalize H1 = H at hP hS ⊢
  have hK : va_K (dC, dI) vwCl [] s := hK
  have hP : va_P (dC, dI) vwCl [(bt, .inr (5, [.ref ta, .ref wi, .ref se, .ref re, .int eb, .int sn, .int sp, .int sa, .int sm])), (re, .inr (0, [.int r0, .int r1, .int r2, .ref ar, .int r4, .int r5, .int r6, .int r7, .int r8])), (ar, .inr (2, [.ref an, .ref ak, .ref ad, .ref as_, .ref az, .int 0]))] H := hP
  have hD : va_D A [(bt, .inr (5, [.ref ta, .ref wi, .ref se, .ref re, .int eb, .int sn, .int sp, .int sa, .int sm])), (re, .inr (0, [.int r0, .int r1, .int r2, .ref ar, .int r4, .int r5, .int r6, .int r7, .int r8])), (ar, .inr (2, [.ref an, .ref ak, .ref ad, .ref as_, .ref az, .int 0]))] := hD
  obtain rfl : r_1 = 0 := ((Classical.em (n0 < 0)).elim (fun h => hw.1 h) (fun h => hw.2.1 (Int32.not_lt.mp h)))
  refine lv_if_eq (tgt := 29) hx hb dX7_size_11 (by decide) (fun c_2 => ?_) (fun c_2 => absurd (by decide) c_2)
  refine lv_iconst (v := (-1)) hx hb dX7_size_29 (by decide) ?_
  exact W.iret (v := (-1)) hx hb hr (fun t ht hW => ⟨⟨(-1), (), rfl, rfl, trivial⟩, hS.F ht⟩) hS.2.2 dX7_size_30

set_option maxHeartbeats 4000000 in
set_option maxRecDepth 100000 in
theorem k_nameAt (l : Launch) (dC : Nat → ClassId) (dI : Nat → Nat → Nat) (bt ta wi se re : Nat) (eb sn sp sa sm : Int32) (ar an ak ad as_ az : Nat) (r0 r1 r2 r4 r5 r6 r7 r8 : Int32) (n0 n1 : Int32) (sz : Nat) : Met l yX7_nameAt wsX7_nameAt ({ frames := 1, cells := 0, slots := 0, locals := 21 }) (va_Pc [.ref bt, .int n0, .int n1] (fun U => U.heap.size = sz ∧ va_P (dC, dI) vwCl [(bt, .inr (5, [.ref ta, .ref wi, .ref se, .ref re, .int eb, .int sn, .int sp, .int sa, .int sm])), (re, .inr (0, [.int r0, .int r1, .int r2, .ref ar, .int r4, .int r5, .int r6, .int r7, .int r8])), (ar, .inr (2, [.ref an, .ref ak, .ref ad, .ref as_, .ref az, .int 0]))] U.heap ∧ va_K (dC, dI) vwCl [] U ∧ va_D (fun _ => True) [(bt, .inr (5, [.ref ta, .ref wi, .ref se, .ref re, .int eb, .int sn, .int sp, .int sa, .int sm])), (re, .inr (0, [.int r0, .int r1, .int r2, .ref ar, .int r4, .int r5, .int r6, .int r7, .int r8])), (ar, .inr (2, [.ref an, .ref ak, .ref ad, .ref as_, .ref az, .int 0]))])) (va_Qi (fun (r : Int32) (_ : Unit) => r = -1) (fun (_ : Unit) (_ : State) => True) (va_A [(bt, .inr (5, [.ref ta, .ref wi, .ref se, .ref re, .int eb, .int sn, .int sp, .int sa, .int sm])), (re, .inr (0, [.int r0, .int r1, .int r2, .ref ar, .int r4, .int r5, .int r6, .int r7, .int r8])), (ar, .inr (2, [.ref an, .ref ak, .ref ad, .ref as_, .ref az, .int 0]))] sz)) 0 0 (va_A [(bt, .inr (5, [.ref ta, .ref wi, .ref se, .ref re, .int eb, .int sn, .int sp, .int sa, .int sm])), (re, .inr (0, [.int r0, .int r1, .int r2, .ref ar, .int r4, .int r5, .int r6, .int r7, .int r8])), (ar, .inr (2, [.ref an, .ref ak, .ref ad, .ref as_, .ref az, .int 0]))] sz) := by
  refine Met.ofW (cc := cX7_nameAt) (maxL := 4) (ret := (some .int)) (by decide) rfl ?_
  intro p e s m args below meth c s₁ B hml hv
  obtain ⟨rfl, hsz, hP, hK, hD0⟩ := hv
  have hx := B.exec
  have hb := B.bytes
  have hr := B.returns
  have hts := atoms_spec (ws := wsX7_nameAt) B.pre
  have hown : s.vm.findClass RX7 = some m.cls := findClass_of_methodNamed B.named
  have hlocks := B.notSynchronized
  subst hsz
  have hD := hD0.self (sz := s.heap.size)
  generalize hAe : va_A [(bt, .inr (5, [.ref ta, .ref wi, .ref se, .ref re, .int eb, .int sn, .int sp, .int sa, .int sm])), (re, .inr (0, [.int r0, .int r1, .int r2, .ref ar, .int r4, .int r5, .int r6, .int r7, .int r8])), (ar, .inr (2, [.ref an, .ref ak, .ref ad, .ref as_, .ref az, .int 0]))] s.heap.size = A at hD ⊢
  have hA : ∀ q : Nat, s.heap.size ≤ q → A q := fun q h => by rw [← hAe]; exact Or.inr h
  have hS : va_S A s.heap s.heap [] := va_S.rf
  have hP : va_P (dC, dI) vwCl [(bt, .inr (5, [.ref ta, .ref wi, .ref se, .ref re, .int eb, .int sn, .int sp, .int sa, .int sm])), (re, .inr (0, [.int r0, .int r1, .int r2, .ref ar, .int r4, .int r5, .int r6, .int r7, .int r8])), (ar, .inr (2, [.ref an, .ref ak, .ref ad, .ref as_, .ref az, .int 0]))] s.heap := hP
  have hl := lv_entry ([.ref bt, .int n0, .int n1]) (n := 4) (Nat.le_of_ble_eq_true rfl)
  rw [lg_entry_eq]
  generalize (lg_sl ([.ref bt, .int n0, .int n1]) ++ List.replicate (4 - (lg_sl ([.ref bt, .int n0, .int n1])).length) Slot.unset).toArray = ls at hl ⊢
  have hl : lv_has ls 4 [(0, .ref bt), (1, .int n0), (2, .int n1)] := hl
  have iX0 : ∀ w ∈ wsX00, w ∈ wsX7_nameAt := by decide +kernel
  have iX7 : ∀ w ∈ wsX70, w ∈ wsX7_nameAt := by decide +kernel
  refine lv_aload_n hx hb dX7_nameAt_0 rfl (lv_at hl 0 rfl) ?_
  refine va_get (D := (dC, dI)) (ci := 5) (v := .ref re) (C := RX7) (T := TX7) (N := 9) hx hb hts iX7 hown hK hP 0 rfl rfl 3 (by decide) (hts (.fieldLink RX7 33 "BatchTransfer" "receiver" "LBatchTransfer$Receiver;") (by decide +kernel)) (fun _ h9 => h9) rfl dX7_nameAt_1 ?_
  refine va_get (D := (dC, dI)) (ci := 0) (v := .ref ar) (C := RX0) (T := TX0) (N := 9) hx hb hts iX0 hown hK hP 1 rfl rfl 3 (by decide) (hts (.fieldLink RX7 132 "BatchTransfer$Receiver" "arrived" "LBatchTransfer$Shelf;") (by decide +kernel)) (fun _ h9 => h9) rfl dX7_nameAt_4 ?_
  refine lv_astore_n (lv' := [(3, .ref ar), (0, .ref bt), (1, .int n0), (2, .int n1)]) hx hb dX7_nameAt_7 rfl hl (by decide) rfl (fun ls hl => ?_)
  refine lv_aload_n hx hb dX7_nameAt_8 rfl (lv_at hl 0 rfl) ?_
  refine lv_iload_n hx hb dX7_nameAt_9 rfl (lv_at hl 2 rfl) ?_
  have hPc := hP.sub (ws' := [(ar, .inr (2, [.ref an, .ref ak, .ref ad, .ref as_, .ref az, .int 0]))]) [2] rfl
  have hDc := hD.sub (ws' := [(ar, .inr (2, [.ref an, .ref ak, .ref ad, .ref as_, .ref az, .int 0]))]) [2] (by decide) rfl
  have hKc := hK.sub (tys' := []) [] rfl
  have hFc := va_free (wc := [(ar, .inr (2, [.ref an, .ref ak, .ref ad, .ref as_, .ref az, .int 0]))]) hD hS hA [2] rfl
  refine va_calli (va_runV (As := [.int n0]) (rest := []) ⟨hx, hb, hml, hown, hts⟩ (k_has l dC dI ar an ak ad as_ az 0 n0 s.heap.size) (cwV 1 hts gX7_nameAt_X2_has rfl rfl rfl (by decide +kernel) ⟨Nat.le_of_ble_eq_true rfl, Nat.le_of_ble_eq_true rfl⟩) ⟨fun a U g mk q => by obtain ⟨q0, q1, qP, qK, qD⟩ := q; exact ⟨q0, q1, qP, va_K.moved (u := U) (U := U.calling g mk a) (Vm.Alike.refl U.vm) qK, qD⟩, va_recv hKc hPc (ci := 2) (q0 := 0) rfl rfl, fun U hU hW => ⟨rfl, by rw [hU], by rw [hU]; exact hPc, va_K.moved hW.alike hKc, hDc.weaken (fun _ _ _ _ => trivial)⟩⟩ rfl rfl hl.1 rfl (lv_room (Nat.le_of_ble_eq_true rfl)) dX7_nameAt_10 ⟨show 0 + 0 ≤ 0 by omega, show 0 + 0 ≤ 0 by omega⟩) hS (fun q _ h => hFc q h) hFc (fun r_1 u t H1 locs ht hvm hw hB hz1 hk1 hS => ?_)
  obtain ⟨hP1, hK1, hD1⟩ := hB
  rw [ht] at hP1
  have hK1 := va_K.moved hvm.symm hK1
  try dsimp only at hw
  obtain ⟨hP, hD⟩ := va_join (wr := [(bt, .inr (5, [.ref ta, .ref wi, .ref se, .ref re, .int eb, .int sn, .int sp, .int sa, .int sm])), (re, .inr (0, [.int r0, .int r1, .int r2, .ref ar, .int r4, .int r5, .int r6, .int r7, .int r8]))]) (w1 := [(ar, .inr (2, [.ref an, .ref ak, .ref ad, .ref as_, .ref az, .int 0]))]) hP hD [2] [0, 1] rfl rfl (by decide) (by decide) hk1 hFc hP1 hD1
  have hK := (hK.sub (tys' := []) [] rfl).app hK1
  generalize H1 = H at hP hS ⊢
  have hK : va_K (dC, dI) vwCl [] s := hK
  have hP : va_P (dC, dI) vwCl [(bt, .inr (5, [.ref ta, .ref wi, .ref se, .ref re, .int eb, .int sn, .int sp, .int sa, .int sm])), (re, .inr (0, [.int r0, .int r1, .int r2, .ref ar, .int r4, .int r5, .int r6, .int r7, .int r8])), (ar, .inr (2, [.ref an, .ref ak, .ref ad, .ref as_, .ref az, .int 0]))] H := hP
  have hD : va_D A [(bt, .inr (5, [.ref ta, .ref wi, .ref se, .ref re, .int eb, .int sn, .int sp, .int sa, .int sm])), (re, .inr (0, [.int r0, .int r1, .int r2, .ref ar, .int r4, .int r5, .int r6, .int r7, .int r8])), (ar, .inr (2, [.ref an, .ref ak, .ref ad, .ref as_, .ref az, .int 0]))] := hD
  obtain rfl : r_1 = 0 := ((Classical.em (n0 < 0)).elim (fun h => hw.1 h) (fun h => hw.2.1 (Int32.not_lt.mp h)))
  refine lv_if_eq (tgt := 30) hx hb dX7_nameAt_13 (by decide) (fun c_2 => ?_) (fun c_2 => absurd (by decide) c_2)
  refine lv_iconst (v := (-1)) hx hb dX7_nameAt_30 (by decide) ?_
  exact W.iret (v := (-1)) hx hb hr (fun t ht hW => ⟨⟨(-1), (), rfl, rfl, trivial⟩, hS.F ht⟩) hS.2.2 dX7_nameAt_31
