set_option maxHeartbeats 4000000 in
set_option maxRecDepth 100000 in
theorem k_app0 (l : Launch) (dC : Nat → ClassId) (dI : Nat → Nat → Nat) (ta tb : Nat) (cT : ClassId) (tf : Nat → Int32) (n0 : Int32) (sz : Nat) : Met l yX4_append wsX4_append ({ frames := 0, cells := 0, slots := 0, locals := 0 }) (va_Pc [.ref ta, .int n0] (fun U => U.heap.size = sz ∧ va_P (dC, dI) vwCl [(ta, .inr (3, [.ref tb, .int 0])), (tb, .inl (cT, 3100, .inl tf))] U.heap ∧ va_K (dC, dI) vwCl [(cT, .byte)] U ∧ va_D (fun _ => True) [(ta, .inr (3, [.ref tb, .int 0])), (tb, .inl (cT, 3100, .inl tf))])) (va_Qv (fun (tg : (Nat → Int32)) => True) (fun (tg : (Nat → Int32)) (t : State) => va_P (dC, dI) vwCl [(ta, .inr (3, [.ref tb, .int 4])), (tb, .inl (cT, 3100, .inl tg))] t.heap ∧ va_K (dC, dI) vwCl [(cT, .byte)] t ∧ va_D (va_A [(ta, .inr (3, [.ref tb, .int 0])), (tb, .inl (cT, 3100, .inl tf))] sz) [(ta, .inr (3, [.ref tb, .int 4])), (tb, .inl (cT, 3100, .inl tg))]) (va_A [(ta, .inr (3, [.ref tb, .int 0])), (tb, .inl (cT, 3100, .inl tf))] sz)) 0 0 (va_A [(ta, .inr (3, [.ref tb, .int 0])), (tb, .inl (cT, 3100, .inl tf))] sz) := by
  refine Met.ofW (cc := cX4_append) (maxL := 3) (ret := none) (by decide) rfl ?_
  intro p e s m args below meth c s₁ B hml hv
  obtain ⟨rfl, hsz, hP, hK, hD0⟩ := hv
  have hx := B.exec
  have hb := B.bytes
  have hr := B.returns
  have hts := atoms_spec (ws := wsX4_append) B.pre
  have hown : s.vm.findClass RX4 = some m.cls := findClass_of_methodNamed B.named
  have hlocks := B.notSynchronized
  subst hsz
  have hD := hD0.self (sz := s.heap.size)
  generalize hAe : va_A [(ta, .inr (3, [.ref tb, .int 0])), (tb, .inl (cT, 3100, .inl tf))] s.heap.size = A at hD ⊢
  have hA : ∀ q : Nat, s.heap.size ≤ q → A q := fun q h => by rw [← hAe]; exact Or.inr h
  have hS : va_S A s.heap s.heap [] := va_S.rf
  have hP : va_P (dC, dI) vwCl [(ta, .inr (3, [.ref tb, .int 0])), (tb, .inl (cT, 3100, .inl tf))] s.heap := hP
  have hl := lv_entry ([.ref ta, .int n0]) (n := 3) (Nat.le_of_ble_eq_true rfl)
  rw [lg_entry_eq]
  generalize (lg_sl ([.ref ta, .int n0]) ++ List.replicate (3 - (lg_sl ([.ref ta, .int n0])).length) Slot.unset).toArray = ls at hl ⊢
  have hl : lv_has ls 3 [(0, .ref ta), (1, .int n0)] := hl
  have iX4 : ∀ w ∈ wsX40, w ∈ wsX4_append := by decide +kernel
  refine lv_bipush (v := 24) hx hb dX4_append_0 (by decide) ?_
  refine lv_istore_n (lv' := [(2, .int 24), (0, .ref ta), (1, .int n0)]) hx hb dX4_append_2 rfl hl (by decide) rfl (fun ls hl => ?_)
  refine lv_iload_n hx hb dX4_append_3 rfl (lv_at hl 0 rfl) ?_
  refine lv_if_lt (tgt := 46) hx hb dX4_append_4 (by decide) (fun c_1 => absurd c_1 (by decide)) (fun c_1 => ?_)
  refine lv_aload_n hx hb dX4_append_7 rfl (lv_at hl 1 rfl) ?_
  refine va_get (D := (dC, dI)) (ci := 3) (v := .int 0) (C := RX4) (T := TX4) (N := 2) hx hb hts iX4 hown hK hP 0 rfl rfl 1 (by decide) (hts (.fieldLink RX4 15 "BatchTransfer$Tape" "length" "I") (by decide +kernel)) (fun _ h9 => h9) rfl dX4_append_8 ?_
  refine lv_sipush (v := 3100) hx hb dX4_append_11 (by decide) ?_
  refine lv_icmp_ge (tgt := 46) hx hb dX4_append_14 (by decide) (fun c_2 => absurd c_2 (by decide)) (fun c_2 => ?_)
  refine lv_aload_n hx hb dX4_append_17 rfl (lv_at hl 1 rfl) ?_
  refine va_get (D := (dC, dI)) (ci := 3) (v := .ref tb) (C := RX4) (T := TX4) (N := 2) hx hb hts iX4 hown hK hP 0 rfl rfl 0 (by decide) (hts (.fieldLink RX4 9 "BatchTransfer$Tape" "bytes" "[B") (by decide +kernel)) (fun _ h9 => h9) rfl dX4_append_18 ?_
  refine lv_aload_n hx hb dX4_append_21 rfl (lv_at hl 1 rfl) ?_
  refine va_get (D := (dC, dI)) (ci := 3) (v := .int 0) (C := RX4) (T := TX4) (N := 2) hx hb hts iX4 hown hK hP 0 rfl rfl 1 (by decide) (hts (.fieldLink RX4 15 "BatchTransfer$Tape" "length" "I") (by decide +kernel)) (fun _ h9 => h9) rfl dX4_append_22 ?_
  refine lv_iload_n hx hb dX4_append_25 rfl (lv_at hl 2 rfl) ?_
  refine lv_iload_n hx hb dX4_append_26 rfl (lv_at hl 0 rfl) ?_
  refine lv_ishr hx hb dX4_append_27 ?_
  refine lv_topi (fun x_3 ex_3 => ?_)
  refine lv_i2b hx hb dX4_append_28 rfl ?_
  refine lv_topi (fun x_4 ex_4 => ?_)
  have h_5 : vp_in (0) 3100 := by unfold vp_in; decide +kernel
  refine va_bast hx hb hK hP hD hS 1 0 rfl rfl h_5 dX4_append_29 (fun H locs hP hD hS => ?_)
  obtain ⟨f_6, ef_6⟩ : ∃ g : Nat → Int32, g = upd tf (0 : Int32).toNatClampNeg (vp_nar .byte x_4) := ⟨_, rfl⟩
  have hP : va_P (dC, dI) vwCl [(ta, .inr (3, [.ref tb, .int 0])), (tb, .inl (cT, 3100, .inl f_6))] H := by rw [ef_6]; exact hP
  have hD : va_D A [(ta, .inr (3, [.ref tb, .int 0])), (tb, .inl (cT, 3100, .inl f_6))] := by rw [ef_6]; exact hD
  refine lv_aload_n hx hb dX4_append_30 rfl (lv_at hl 1 rfl) ?_
  refine lv_dup hx hb dX4_append_31 rfl ?_
  refine va_get (D := (dC, dI)) (ci := 3) (v := .int 0) (C := RX4) (T := TX4) (N := 2) hx hb hts iX4 hown hK hP 0 rfl rfl 1 (by decide) (hts (.fieldLink RX4 15 "BatchTransfer$Tape" "length" "I") (by decide +kernel)) (fun _ h9 => h9) rfl dX4_append_32 ?_
  refine lv_iconst (v := 1) hx hb dX4_append_35 (by decide) ?_
  refine lv_iadd hx hb dX4_append_36 ?_
  refine lv_topi (fun x_7 ex_7 => ?_)
  obtain rfl : x_7 = 1 := ex_7.trans (by decide)
  refine va_put (D := (dC, dI)) (ci := 3) (v := .int 1) (ty := .int) (C := RX4) (T := TX4) (N := 2) hx hb hts iX4 tyX4 tyX4_ok nmX4 hown hK hP hD hS 0 rfl rfl 1 (by decide) (hts (.fieldLink RX4 15 "BatchTransfer$Tape" "length" "I") (by decide +kernel)) (fun _ h9 => h9) rfl (by decide +kernel) rfl rfl (Nat.le_of_ble_eq_true rfl) dX4_append_37 (fun H locs hP hD hS => ?_)
  have hP : va_P (dC, dI) vwCl [(ta, .inr (3, [.ref tb, .int 1])), (tb, .inl (cT, 3100, .inl f_6))] H := hP
  have hD : va_D A [(ta, .inr (3, [.ref tb, .int 1])), (tb, .inl (cT, 3100, .inl f_6))] := hD
  refine lv_iinc (v := 16) (lv' := [(2, .int 16), (0, .ref ta), (1, .int n0)]) hx hb dX4_append_40 hl (k := 0) rfl (by decide) (by decide) rfl (fun ls hl => ?_)
  refine lv_goto (tgt := 3) hx hb dX4_append_43 (by decide) ?_
  refine lv_iload_n hx hb dX4_append_3 rfl (lv_at hl 0 rfl) ?_
  refine lv_if_lt (tgt := 46) hx hb dX4_append_4 (by decide) (fun c_8 => absurd c_8 (by decide)) (fun c_8 => ?_)
  refine lv_aload_n hx hb dX4_append_7 rfl (lv_at hl 1 rfl) ?_
  refine va_get (D := (dC, dI)) (ci := 3) (v := .int 1) (C := RX4) (T := TX4) (N := 2) hx hb hts iX4 hown hK hP 0 rfl rfl 1 (by decide) (hts (.fieldLink RX4 15 "BatchTransfer$Tape" "length" "I") (by decide +kernel)) (fun _ h9 => h9) rfl dX4_append_8 ?_
  refine lv_sipush (v := 3100) hx hb dX4_append_11 (by decide) ?_
  refine lv_icmp_ge (tgt := 46) hx hb dX4_append_14 (by decide) (fun c_9 => absurd c_9 (by decide)) (fun c_9 => ?_)
  refine lv_aload_n hx hb dX4_append_17 rfl (lv_at hl 1 rfl) ?_
  refine va_get (D := (dC, dI)) (ci := 3) (v := .ref tb) (C := RX4) (T := TX4) (N := 2) hx hb hts iX4 hown hK hP 0 rfl rfl 0 (by decide) (hts (.fieldLink RX4 9 "BatchTransfer$Tape" "bytes" "[B") (by decide +kernel)) (fun _ h9 => h9) rfl dX4_append_18 ?_
  refine lv_aload_n hx hb dX4_append_21 rfl (lv_at hl 1 rfl) ?_
  refine va_get (D := (dC, dI)) (ci := 3) (v := .int 1) (C := RX4) (T := TX4) (N := 2) hx hb hts iX4 hown hK hP 0 rfl rfl 1 (by decide) (hts (.fieldLink RX4 15 "BatchTransfer$Tape" "length" "I") (by decide +kernel)) (fun _ h9 => h9) rfl dX4_append_22 ?_
  refine lv_iload_n hx hb dX4_append_25 rfl (lv_at hl 2 rfl) ?_
  refine lv_iload_n hx hb dX4_append_26 rfl (lv_at hl 0 rfl) ?_
  refine lv_ishr hx hb dX4_append_27 ?_
  refine lv_topi (fun x_10 ex_10 => ?_)
  refine lv_i2b hx hb dX4_append_28 rfl ?_
  refine lv_topi (fun x_11 ex_11 => ?_)
  have h_12 : vp_in (1) 3100 := by unfold vp_in; decide +kernel
  refine va_bast hx hb hK hP hD hS 1 0 rfl rfl h_12 dX4_append_29 (fun H locs hP hD hS => ?_)
  obtain ⟨f_13, ef_13⟩ : ∃ g : Nat → Int32, g = upd f_6 (1 : Int32).toNatClampNeg (vp_nar .byte x_11) := ⟨_, rfl⟩
  have hP : va_P (dC, dI) vwCl [(ta, .inr (3, [.ref tb, .int 1])), (tb, .inl (cT, 3100, .inl f_13))] H := by rw [ef_13]; exact hP
  have hD : va_D A [(ta, .inr (3, [.ref tb, .int 1])), (tb, .inl (cT, 3100, .inl f_13))] := by rw [ef_13]; exact hD
  refine lv_aload_n hx hb dX4_append_30 rfl (lv_at hl 1 rfl) ?_
  refine lv_dup hx hb dX4_append_31 rfl ?_
  refine va_get (D := (dC, dI)) (ci := 3) (v := .int 1) (C := RX4) (T := TX4) (N := 2) hx hb hts iX4 hown hK hP 0 rfl rfl 1 (by decide) (hts (.fieldLink RX4 15 "BatchTransfer$Tape" "length" "I") (by decide +kernel)) (fun _ h9 => h9) rfl dX4_append_32 ?_
  refine lv_iconst (v := 1) hx hb dX4_append_35 (by decide) ?_
  refine lv_iadd hx hb dX4_append_36 ?_
  refine lv_topi (fun x_14 ex_14 => ?_)
  obtain rfl : x_14 = 2 := ex_14.trans (by decide)
  refine va_put (D := (dC, dI)) (ci := 3) (v := .int 2) (ty := .int) (C := RX4) (T := TX4) (N := 2) hx hb hts iX4 tyX4 tyX4_ok nmX4 hown hK hP hD hS 0 rfl rfl 1 (by decide) (hts (.fieldLink RX4 15 "BatchTransfer$Tape" "length" "I") (by decide +kernel)) (fun _ h9 => h9) rfl (by decide +kernel) rfl rfl (Nat.le_of_ble_eq_true rfl) dX4_append_37 (fun H locs hP hD hS => ?_)
  have hP : va_P (dC, dI) vwCl [(ta, .inr (3, [.ref tb, .int 2])), (tb, .inl (cT, 3100, .inl f_13))] H := hP
  have hD : va_D A [(ta, .inr (3, [.ref tb, .int 2])), (tb, .inl (cT, 3100, .inl f_13))] := hD
  refine lv_iinc (v := 8) (lv' := [(2, .int 8), (0, .ref ta), (1, .int n0)]) hx hb dX4_append_40 hl (k := 0) rfl (by decide) (by decide) rfl (fun ls hl => ?_)
  refine lv_goto (tgt := 3) hx hb dX4_append_43 (by decide) ?_
  refine lv_iload_n hx hb dX4_append_3 rfl (lv_at hl 0 rfl) ?_
  refine lv_if_lt (tgt := 46) hx hb dX4_append_4 (by decide) (fun c_15 => absurd c_15 (by decide)) (fun c_15 => ?_)
  refine lv_aload_n hx hb dX4_append_7 rfl (lv_at hl 1 rfl) ?_
  refine va_get (D := (dC, dI)) (ci := 3) (v := .int 2) (C := RX4) (T := TX4) (N := 2) hx hb hts iX4 hown hK hP 0 rfl rfl 1 (by decide) (hts (.fieldLink RX4 15 "BatchTransfer$Tape" "length" "I") (by decide +kernel)) (fun _ h9 => h9) rfl dX4_append_8 ?_
  refine lv_sipush (v := 3100) hx hb dX4_append_11 (by decide) ?_
  refine lv_icmp_ge (tgt := 46) hx hb dX4_append_14 (by decide) (fun c_16 => absurd c_16 (by decide)) (fun c_16 => ?_)
  refine lv_aload_n hx hb dX4_append_17 rfl (lv_at hl 1 rfl) ?_
  refine va_get (D := (dC, dI)) (ci := 3) (v := .ref tb) (C := RX4) (T := TX4) (N := 2) hx hb hts iX4 hown hK hP 0 rfl rfl 0 (by decide) (hts (.fieldLink RX4 9 "BatchTransfer$Tape" "bytes" "[B") (by decide +kernel)) (fun _ h9 => h9) rfl dX4_append_18 ?_
  refine lv_aload_n hx hb dX4_append_21 rfl (lv_at hl 1 rfl) ?_
  refine va_get (D := (dC, dI)) (ci := 3) (v := .int 2) (C := RX4) (T := TX4) (N := 2) hx hb hts iX4 hown hK hP 0 rfl rfl 1 (by decide) (hts (.fieldLink RX4 15 "BatchTransfer$Tape" "length" "I") (by decide +kernel)) (fun _ h9 => h9) rfl dX4_append_22 ?_
  refine lv_iload_n hx hb dX4_append_25 rfl (lv_at hl 2 rfl) ?_
  refine lv_iload_n hx hb dX4_append_26 rfl (lv_at hl 0 rfl) ?_
  refine lv_ishr hx hb dX4_append_27 ?_
  refine lv_topi (fun x_17 ex_17 => ?_)
  refine lv_i2b hx hb dX4_append_28 rfl ?_
  refine lv_topi (fun x_18 ex_18 => ?_)
  have h_19 : vp_in (2) 3100 := by unfold vp_in; decide +kernel
  refine va_bast hx hb hK hP hD hS 1 0 rfl rfl h_19 dX4_append_29 (fun H locs hP hD hS => ?_)
  obtain ⟨f_20, ef_20⟩ : ∃ g : Nat → Int32, g = upd f_13 (2 : Int32).toNatClampNeg (vp_nar .byte x_18) := ⟨_, rfl⟩
  have hP : va_P (dC, dI) vwCl [(ta, .inr (3, [.ref tb, .int 2])), (tb, .inl (cT, 3100, .inl f_20))] H := by rw [ef_20]; exact hP
  have hD : va_D A [(ta, .inr (3, [.ref tb, .int 2])), (tb, .inl (cT, 3100, .inl f_20))] := by rw [ef_20]; exact hD
  refine lv_aload_n hx hb dX4_append_30 rfl (lv_at hl 1 rfl) ?_
  refine lv_dup hx hb dX4_append_31 rfl ?_
  refine va_get (D := (dC, dI)) (ci := 3) (v := .int 2) (C := RX4) (T := TX4) (N := 2) hx hb hts iX4 hown hK hP 0 rfl rfl 1 (by decide) (hts (.fieldLink RX4 15 "BatchTransfer$Tape" "length" "I") (by decide +kernel)) (fun _ h9 => h9) rfl dX4_append_32 ?_
  refine lv_iconst (v := 1) hx hb dX4_append_35 (by decide) ?_
  refine lv_iadd hx hb dX4_append_36 ?_
  refine lv_topi (fun x_21 ex_21 => ?_)
  obtain rfl : x_21 = 3 := ex_21.trans (by decide)
  refine va_put (D := (dC, dI)) (ci := 3) (v := .int 3) (ty := .int) (C := RX4) (T := TX4) (N := 2) hx hb hts iX4 tyX4 tyX4_ok nmX4 hown hK hP hD hS 0 rfl rfl 1 (by decide) (hts (.fieldLink RX4 15 "BatchTransfer$Tape" "length" "I") (by decide +kernel)) (fun _ h9 => h9) rfl (by decide +kernel) rfl rfl (Nat.le_of_ble_eq_true rfl) dX4_append_37 (fun H locs hP hD hS => ?_)
  have hP : va_P (dC, dI) vwCl [(ta, .inr (3, [.ref tb, .int 3])), (tb, .inl (cT, 3100, .inl f_20))] H := hP
  have hD : va_D A [(ta, .inr (3, [.ref tb, .int 3])), (tb, .inl (cT, 3100, .inl f_20))] := hD
  refine lv_iinc (v := 0) (lv' := [(2, .int 0), (0, .ref ta), (1, .int n0)]) hx hb dX4_append_40 hl (k := 0) rfl (by decide) (by decide) rfl (fun ls hl => ?_)
  refine lv_goto (tgt := 3) hx hb dX4_append_43 (by decide) ?_
  refine lv_iload_n hx hb dX4_append_3 rfl (lv_at hl 0 rfl) ?_
  refine lv_if_lt (tgt := 46) hx hb dX4_append_4 (by decide) (fun c_22 => absurd c_22 (by decide)) (fun c_22 => ?_)
  refine lv_aload_n hx hb dX4_append_7 rfl (lv_at hl 1 rfl) ?_
  refine va_get (D := (dC, dI)) (ci := 3) (v := .int 3) (C := RX4) (T := TX4) (N := 2) hx hb hts iX4 hown hK hP 0 rfl rfl 1 (by decide) (hts (.fieldLink RX4 15 "BatchTransfer$Tape" "length" "I") (by decide +kernel)) (fun _ h9 => h9) rfl dX4_append_8 ?_
  refine lv_sipush (v := 3100) hx hb dX4_append_11 (by decide) ?_
  refine lv_icmp_ge (tgt := 46) hx hb dX4_append_14 (by decide) (fun c_23 => absurd c_23 (by decide)) (fun c_23 => ?_)
  refine lv_aload_n hx hb dX4_append_17 rfl (lv_at hl 1 rfl) ?_
  refine va_get (D := (dC, dI)) (ci := 3) (v := .ref tb) (C := RX4) (T := TX4) (N := 2) hx hb hts iX4 hown hK hP 0 rfl rfl 0 (by decide) (hts (.fieldLink RX4 9 "BatchTransfer$Tape" "bytes" "[B") (by decide +kernel)) (fun _ h9 => h9) rfl dX4_append_18 ?_
  refine lv_aload_n hx hb dX4_append_21 rfl (lv_at hl 1 rfl) ?_
  refine va_get (D := (dC, dI)) (ci := 3) (v := .int 3) (C := RX4) (T := TX4) (N := 2) hx hb hts iX4 hown hK hP 0 rfl rfl 1 (by decide) (hts (.fieldLink RX4 15 "BatchTransfer$Tape" "length" "I") (by decide +kernel)) (fun _ h9 => h9) rfl dX4_append_22 ?_
  refine lv_iload_n hx hb dX4_append_25 rfl (lv_at hl 2 rfl) ?_
  refine lv_iload_n hx hb dX4_append_26 rfl (lv_at hl 0 rfl) ?_
  refine lv_ishr hx hb dX4_append_27 ?_
  refine lv_topi (fun x_24 ex_24 => ?_)
  refine lv_i2b hx hb dX4_append_28 rfl ?_
  refine lv_topi (fun x_25 ex_25 => ?_)
  have h_26 : vp_in (3) 3100 := by unfold vp_in; decide +kernel
  refine va_bast hx hb hK hP hD hS 1 0 rfl rfl h_26 dX4_append_29 (fun H locs hP hD hS => ?_)
  obtain ⟨f_27, ef_27⟩ : ∃ g : Nat → Int32, g = upd f_20 (3 : Int32).toNatClampNeg (vp_nar .byte x_25) := ⟨_, rfl⟩
  have hP : va_P (dC, dI) vwCl [(ta, .inr (3, [.ref tb, .int 3])), (tb, .inl (cT, 3100, .inl f_27))] H := by rw [ef_27]; exact hP
  have hD : va_D A [(ta, .inr (3, [.ref tb, .int 3])), (tb, .inl (cT, 3100, .inl f_27))] := by rw [ef_27]; exact hD
  refine lv_aload_n hx hb dX4_append_30 rfl (lv_at hl 1 rfl) ?_
  refine lv_dup hx hb dX4_append_31 rfl ?_
  refine va_get (D := (dC, dI)) (ci := 3) (v := .int 3) (C := RX4) (T := TX4) (N := 2) hx hb hts iX4 hown hK hP 0 rfl rfl 1 (by decide) (hts (.fieldLink RX4 15 "BatchTransfer$Tape" "length" "I") (by decide +kernel)) (fun _ h9 => h9) rfl dX4_append_32 ?_
  refine lv_iconst (v := 1) hx hb dX4_append_35 (by decide) ?_
  refine lv_iadd hx hb dX4_append_36 ?_
  refine lv_topi (fun x_28 ex_28 => ?_)
  obtain rfl : x_28 = 4 := ex_28.trans (by decide)
  refine va_put (D := (dC, dI)) (ci := 3) (v := .int 4) (ty := .int) (C := RX4) (T := TX4) (N := 2) hx hb hts iX4 tyX4 tyX4_ok nmX4 hown hK hP hD hS 0 rfl rfl 1 (by decide) (hts (.fieldLink RX4 15 "BatchTransfer$Tape" "length" "I") (by decide +kernel)) (fun _ h9 => h9) rfl (by decide +kernel) rfl rfl (Nat.le_of_ble_eq_true rfl) dX4_append_37 (fun H locs hP hD hS => ?_)
  have hP : va_P (dC, dI) vwCl [(ta, .inr (3, [.ref tb, .int 4])), (tb, .inl (cT, 3100, .inl f_27))] H := hP
  have hD : va_D A [(ta, .inr (3, [.ref tb, .int 4])), (tb, .inl (cT, 3100, .inl f_27))] := hD
  refine lv_iinc (v := (-8)) (lv' := [(2, .int (-8)), (0, .ref ta), (1, .int n0)]) hx hb dX4_append_40 hl (k := 0) rfl (by decide) (by decide) rfl (fun ls hl => ?_)
  refine lv_goto (tgt := 3) hx hb dX4_append_43 (by decide) ?_
  refine lv_iload_n hx hb dX4_append_3 rfl (lv_at hl 0 rfl) ?_
  refine lv_if_lt (tgt := 46) hx hb dX4_append_4 (by decide) (fun c_29 => ?_) (fun c_29 => absurd (by decide) c_29)
  have hP9 := hP.sub (ws' := [(ta, .inr (3, [.ref tb, .int 4])), (tb, .inl (cT, 3100, .inl f_27))]) [0, 1] rfl
  have hD9 := hD.sub (ws' := [(ta, .inr (3, [.ref tb, .int 4])), (tb, .inl (cT, 3100, .inl f_27))]) [0, 1] (by decide) rfl
  have hK9 := hK.sub (tys' := [(cT, .byte)]) [0] rfl
  exact W.vret hx hb hr (fun t ht hW => ⟨⟨(f_27), rfl, trivial, by rw [ht]; exact hP9, va_K.moved hW.alike hK9, hD9⟩, hS.F ht⟩) hS.2.2 dX4_append_46

set_option maxHeartbeats 4000000 in
set_option maxRecDepth 100000 in
theorem k_app4 (l : Launch) (dC : Nat → ClassId) (dI : Nat → Nat → Nat) (ta tb : Nat) (cT : ClassId) (tf : Nat → Int32) (n0 : Int32) (sz : Nat) : Met l yX4_append wsX4_append ({ frames := 0, cells := 0, slots := 0, locals := 0 }) (va_Pc [.ref ta, .int n0] (fun U => U.heap.size = sz ∧ va_P (dC, dI) vwCl [(ta, .inr (3, [.ref tb, .int 4])), (tb, .inl (cT, 3100, .inl tf))] U.heap ∧ va_K (dC, dI) vwCl [(cT, .byte)] U ∧ va_D (fun _ => True) [(ta, .inr (3, [.ref tb, .int 4])), (tb, .inl (cT, 3100, .inl tf))])) (va_Qv (fun (tg : (Nat → Int32)) => True) (fun (tg : (Nat → Int32)) (t : State) => va_P (dC, dI) vwCl [(ta, .inr (3, [.ref tb, .int 8])), (tb, .inl (cT, 3100, .inl tg))] t.heap ∧ va_K (dC, dI) vwCl [(cT, .byte)] t ∧ va_D (va_A [(ta, .inr (3, [.ref tb, .int 4])), (tb, .inl (cT, 3100, .inl tf))] sz) [(ta, .inr (3, [.ref tb, .int 8])), (tb, .inl (cT, 3100, .inl tg))]) (va_A [(ta, .inr (3, [.ref tb, .int 4])), (tb, .inl (cT, 3100, .inl tf))] sz)) 0 0 (va_A [(ta, .inr (3, [.ref tb, .int 4])), (tb, .inl (cT, 3100, .inl tf))] sz) := by
  refine Met.ofW (cc := cX4_append) (maxL := 3) (ret := none) (by decide) rfl ?_
  intro p e s m args below meth c s₁ B hml hv
  obtain ⟨rfl, hsz, hP, hK, hD0⟩ := hv
  have hx := B.exec
  have hb := B.bytes
  have hr := B.returns
  have hts := atoms_spec (ws := wsX4_append) B.pre
  have hown : s.vm.findClass RX4 = some m.cls := findClass_of_methodNamed B.named
  have hlocks := B.notSynchronized
  subst hsz
  have hD := hD0.self (sz := s.heap.size)
  generalize hAe : va_A [(ta, .inr (3, [.ref tb, .int 4])), (tb, .inl (cT, 3100, .inl tf))] s.heap.size = A at hD ⊢
  have hA : ∀ q : Nat, s.heap.size ≤ q → A q := fun q h => by rw [← hAe]; exact Or.inr h
  have hS : va_S A s.heap s.heap [] := va_S.rf
  have hP : va_P (dC, dI) vwCl [(ta, .inr (3, [.ref tb, .int 4])), (tb, .inl (cT, 3100, .inl tf))] s.heap := hP
  have hl := lv_entry ([.ref ta, .int n0]) (n := 3) (Nat.le_of_ble_eq_true rfl)
  rw [lg_entry_eq]
  generalize (lg_sl ([.ref ta, .int n0]) ++ List.replicate (3 - (lg_sl ([.ref ta, .int n0])).length) Slot.unset).toArray = ls at hl ⊢
  have hl : lv_has ls 3 [(0, .ref ta), (1, .int n0)] := hl
  have iX4 : ∀ w ∈ wsX40, w ∈ wsX4_append := by decide +kernel
  refine lv_bipush (v := 24) hx hb dX4_append_0 (by decide) ?_
  refine lv_istore_n (lv' := [(2, .int 24), (0, .ref ta), (1, .int n0)]) hx hb dX4_append_2 rfl hl (by decide) rfl (fun ls hl => ?_)
  refine lv_iload_n hx hb dX4_append_3 rfl (lv_at hl 0 rfl) ?_
  refine lv_if_lt (tgt := 46) hx hb dX4_append_4 (by decide) (fun c_1 => absurd c_1 (by decide)) (fun c_1 => ?_)
  refine lv_aload_n hx hb dX4_append_7 rfl (lv_at hl 1 rfl) ?_
  refine va_get (D := (dC, dI)) (ci := 3) (v := .int 4) (C := RX4) (T := TX4) (N := 2) hx hb hts iX4 hown hK hP 0 rfl rfl 1 (by decide) (hts (.fieldLink RX4 15 "BatchTransfer$Tape" "length" "I") (by decide +kernel)) (fun _ h9 => h9) rfl dX4_append_8 ?_
  refine lv_sipush (v := 3100) hx hb dX4_append_11 (by decide) ?_
  refine lv_icmp_ge (tgt := 46) hx hb dX4_append_14 (by decide) (fun c_2 => absurd c_2 (by decide)) (fun c_2 => ?_)
  refine lv_aload_n hx hb dX4_append_17 rfl (lv_at hl 1 rfl) ?_
  refine va_get (D := (dC, dI)) (ci := 3) (v := .ref tb) (C := RX4) (T := TX4) (N := 2) hx hb hts iX4 hown hK hP 0 rfl rfl 0 (by decide) (hts (.fieldLink RX4 9 "BatchTransfer$Tape" "bytes" "[B") (by decide +kernel)) (fun _ h9 => h9) rfl dX4_append_18 ?_
  refine lv_aload_n hx hb dX4_append_21 rfl (lv_at hl 1 rfl) ?_
  refine va_get (D := (dC, dI)) (ci := 3) (v := .int 4) (C := RX4) (T := TX4) (N := 2) hx hb hts iX4 hown hK hP 0 rfl rfl 1 (by decide) (hts (.fieldLink RX4 15 "BatchTransfer$Tape" "length" "I") (by decide +kernel)) (fun _ h9 => h9) rfl dX4_append_22 ?_
  refine lv_iload_n hx hb dX4_append_25 rfl (lv_at hl 2 rfl) ?_
  refine lv_iload_n hx hb dX4_append_26 rfl (lv_at hl 0 rfl) ?_
  refine lv_ishr hx hb dX4_append_27 ?_
  refine lv_topi (fun x_3 ex_3 => ?_)
  refine lv_i2b hx hb dX4_append_28 rfl ?_
  refine lv_topi (fun x_4 ex_4 => ?_)
  have h_5 : vp_in (4) 3100 := by unfold vp_in; decide +kernel
  refine va_bast hx hb hK hP hD hS 1 0 rfl rfl h_5 dX4_append_29 (fun H locs hP hD hS => ?_)
  obtain ⟨f_6, ef_6⟩ : ∃ g : Nat → Int32, g = upd tf (4 : Int32).toNatClampNeg (vp_nar .byte x_4) := ⟨_, rfl⟩
  have hP : va_P (dC, dI) vwCl [(ta, .inr (3, [.ref tb, .int 4])), (tb, .inl (cT, 3100, .inl f_6))] H := by rw [ef_6]; exact hP
  have hD : va_D A [(ta, .inr (3, [.ref tb, .int 4])), (tb, .inl (cT, 3100, .inl f_6))] := by rw [ef_6]; exact hD
  refine lv_aload_n hx hb dX4_append_30 rfl (lv_at hl 1 rfl) ?_
  refine lv_dup hx hb dX4_append_31 rfl ?_
  refine va_get (D := (dC, dI)) (ci := 3) (v := .int 4) (C := RX4) (T := TX4) (N := 2) hx hb hts iX4 hown hK hP 0 rfl rfl 1 (by decide) (hts (.fieldLink RX4 15 "BatchTransfer$Tape" "length" "I") (by decide +kernel)) (fun _ h9 => h9) rfl dX4_append_32 ?_
  refine lv_iconst (v := 1) hx hb dX4_append_35 (by decide) ?_
  refine lv_iadd hx hb dX4_append_36 ?_
  refine lv_topi (fun x_7 ex_7 => ?_)
  obtain rfl : x_7 = 5 := ex_7.trans (by decide)
  refine va_put (D := (dC, dI)) (ci := 3) (v := .int 5) (ty := .int) (C := RX4) (T := TX4) (N := 2) hx hb hts iX4 tyX4 tyX4_ok nmX4 hown hK hP hD hS 0 rfl rfl 1 (by decide) (hts (.fieldLink RX4 15 "BatchTransfer$Tape" "length" "I") (by decide +kernel)) (fun _ h9 => h9) rfl (by decide +kernel) rfl rfl (Nat.le_of_ble_eq_true rfl) dX4_append_37 (fun H locs hP hD hS => ?_)
  have hP : va_P (dC, dI) vwCl [(ta, .inr (3, [.ref tb, .int 5])), (tb, .inl (cT, 3100, .inl f_6))] H := hP
  have hD : va_D A [(ta, .inr (3, [.ref tb, .int 5])), (tb, .inl (cT, 3100, .inl f_6))] := hD
  refine lv_iinc (v := 16) (lv' := [(2, .int 16), (0, .ref ta), (1, .int n0)]) hx hb dX4_append_40 hl (k := 0) rfl (by decide) (by decide) rfl (fun ls hl => ?_)
  refine lv_goto (tgt := 3) hx hb dX4_append_43 (by decide) ?_
  refine lv_iload_n hx hb dX4_append_3 rfl (lv_at hl 0 rfl) ?_
  refine lv_if_lt (tgt := 46) hx hb dX4_append_4 (by decide) (fun c_8 => absurd c_8 (by decide)) (fun c_8 => ?_)
  refine lv_aload_n hx hb dX4_append_7 rfl (lv_at hl 1 rfl) ?_
  refine va_get (D := (dC, dI)) (ci := 3) (v := .int 5) (C := RX4) (T := TX4) (N := 2) hx hb hts iX4 hown hK hP 0 rfl rfl 1 (by decide) (hts (.fieldLink RX4 15 "BatchTransfer$Tape" "length" "I") (by decide +kernel)) (fun _ h9 => h9) rfl dX4_append_8 ?_
  refine lv_sipush (v := 3100) hx hb dX4_append_11 (by decide) ?_
  refine lv_icmp_ge (tgt := 46) hx hb dX4_append_14 (by decide) (fun c_9 => absurd c_9 (by decide)) (fun c_9 => ?_)
  refine lv_aload_n hx hb dX4_append_17 rfl (lv_at hl 1 rfl) ?_
  refine va_get (D := (dC, dI)) (ci := 3) (v := .ref tb) (C := RX4) (T := TX4) (N := 2) hx hb hts iX4 hown hK hP 0 rfl rfl 0 (by decide) (hts (.fieldLink RX4 9 "BatchTransfer$Tape" "bytes" "[B") (by decide +kernel)) (fun _ h9 => h9) rfl dX4_append_18 ?_
  refine lv_aload_n hx hb dX4_append_21 rfl (lv_at hl 1 rfl) ?_
  refine va_get (D := (dC, dI)) (ci := 3) (v := .int 5) (C := RX4) (T := TX4) (N := 2) hx hb hts iX4 hown hK hP 0 rfl rfl 1 (by decide) (hts (.fieldLink RX4 15 "BatchTransfer$Tape" "length" "I") (by decide +kernel)) (fun _ h9 => h9) rfl dX4_append_22 ?_
  refine lv_iload_n hx hb dX4_append_25 rfl (lv_at hl 2 rfl) ?_
  refine lv_iload_n hx hb dX4_append_26 rfl (lv_at hl 0 rfl) ?_
  refine lv_ishr hx hb dX4_append_27 ?_
  refine lv_topi (fun x_10 ex_10 => ?_)
  refine lv_i2b hx hb dX4_append_28 rfl ?_
  refine lv_topi (fun x_11 ex_11 => ?_)
  have h_12 : vp_in (5) 3100 := by unfold vp_in; decide +kernel
  refine va_bast hx hb hK hP hD hS 1 0 rfl rfl h_12 dX4_append_29 (fun H locs hP hD hS => ?_)
  obtain ⟨f_13, ef_13⟩ : ∃ g : Nat → Int32, g = upd f_6 (5 : Int32).toNatClampNeg (vp_nar .byte x_11) := ⟨_, rfl⟩
  have hP : va_P (dC, dI) vwCl [(ta, .inr (3, [.ref tb, .int 5])), (tb, .inl (cT, 3100, .inl f_13))] H := by rw [ef_13]; exact hP
  have hD : va_D A [(ta, .inr (3, [.ref tb, .int 5])), (tb, .inl (cT, 3100, .inl f_13))] := by rw [ef_13]; exact hD
  refine lv_aload_n hx hb dX4_append_30 rfl (lv_at hl 1 rfl) ?_
  refine lv_dup hx hb dX4_append_31 rfl ?_
  refine va_get (D := (dC, dI)) (ci := 3) (v := .int 5) (C := RX4) (T := TX4) (N := 2) hx hb hts iX4 hown hK hP 0 rfl rfl 1 (by decide) (hts (.fieldLink RX4 15 "BatchTransfer$Tape" "length" "I") (by decide +kernel)) (fun _ h9 => h9) rfl dX4_append_32 ?_
  refine lv_iconst (v := 1) hx hb dX4_append_35 (by decide) ?_
  refine lv_iadd hx hb dX4_append_36 ?_
  refine lv_topi (fun x_14 ex_14 => ?_)
  obtain rfl : x_14 = 6 := ex_14.trans (by decide)
  refine va_put (D := (dC, dI)) (ci := 3) (v := .int 6) (ty := .int) (C := RX4) (T := TX4) (N := 2) hx hb hts iX4 tyX4 tyX4_ok nmX4 hown hK hP hD hS 0 rfl rfl 1 (by decide) (hts (.fieldLink RX4 15 "BatchTransfer$Tape" "length" "I") (by decide +kernel)) (fun _ h9 => h9) rfl (by decide +kernel) rfl rfl (Nat.le_of_ble_eq_true rfl) dX4_append_37 (fun H locs hP hD hS => ?_)
  have hP : va_P (dC, dI) vwCl [(ta, .inr (3, [.ref tb, .int 6])), (tb, .inl (cT, 3100, .inl f_13))] H := hP
  have hD : va_D A [(ta, .inr (3, [.ref tb, .int 6])), (tb, .inl (cT, 3100, .inl f_13))] := hD
  refine lv_iinc (v := 8) (lv' := [(2, .int 8), (0, .ref ta), (1, .int n0)]) hx hb dX4_append_40 hl (k := 0) rfl (by decide) (by decide) rfl (fun ls hl => ?_)
  refine lv_goto (tgt := 3) hx hb dX4_append_43 (by decide) ?_
  refine lv_iload_n hx hb dX4_append_3 rfl (lv_at hl 0 rfl) ?_
  refine lv_if_lt (tgt := 46) hx hb dX4_append_4 (by decide) (fun c_15 => absurd c_15 (by decide)) (fun c_15 => ?_)
  refine lv_aload_n hx hb dX4_append_7 rfl (lv_at hl 1 rfl) ?_
  refine va_get (D := (dC, dI)) (ci := 3) (v := .int 6) (C := RX4) (T := TX4) (N := 2) hx hb hts iX4 hown hK hP 0 rfl rfl 1 (by decide) (hts (.fieldLink RX4 15 "BatchTransfer$Tape" "length" "I") (by decide +kernel)) (fun _ h9 => h9) rfl dX4_append_8 ?_
  refine lv_sipush (v := 3100) hx hb dX4_append_11 (by decide) ?_
  refine lv_icmp_ge (tgt := 46) hx hb dX4_append_14 (by decide) (fun c_16 => absurd c_16 (by decide)) (fun c_16 => ?_)
  refine lv_aload_n hx hb dX4_append_17 rfl (lv_at hl 1 rfl) ?_
  refine va_get (D := (dC, dI)) (ci := 3) (v := .ref tb) (C := RX4) (T := TX4) (N := 2) hx hb hts iX4 hown hK hP 0 rfl rfl 0 (by decide) (hts (.fieldLink RX4 9 "BatchTransfer$Tape" "bytes" "[B") (by decide +kernel)) (fun _ h9 => h9) rfl dX4_append_18 ?_
  refine lv_aload_n hx hb dX4_append_21 rfl (lv_at hl 1 rfl) ?_
  refine va_get (D := (dC, dI)) (ci := 3) (v := .int 6) (C := RX4) (T := TX4) (N := 2) hx hb hts iX4 hown hK hP 0 rfl rfl 1 (by decide) (hts (.fieldLink RX4 15 "BatchTransfer$Tape" "length" "I") (by decide +kernel)) (fun _ h9 => h9) rfl dX4_append_22 ?_
  refine lv_iload_n hx hb dX4_append_25 rfl (lv_at hl 2 rfl) ?_
  refine lv_iload_n hx hb dX4_append_26 rfl (lv_at hl 0 rfl) ?_
  refine lv_ishr hx hb dX4_append_27 ?_
  refine lv_topi (fun x_17 ex_17 => ?_)
  refine lv_i2b hx hb dX4_append_28 rfl ?_
  refine lv_topi (fun x_18 ex_18 => ?_)
  have h_19 : vp_in (6) 3100 := by unfold vp_in; decide +kernel
  refine va_bast hx hb hK hP hD hS 1 0 rfl rfl h_19 dX4_append_29 (fun H locs hP hD hS => ?_)
  obtain ⟨f_20, ef_20⟩ : ∃ g : Nat → Int32, g = upd f_13 (6 : Int32).toNatClampNeg (vp_nar .byte x_18) := ⟨_, rfl⟩
  have hP : va_P (dC, dI) vwCl [(ta, .inr (3, [.ref tb, .int 6])), (tb, .inl (cT, 3100, .inl f_20))] H := by rw [ef_20]; exact hP
  have hD : va_D A [(ta, .inr (3, [.ref tb, .int 6])), (tb, .inl (cT, 3100, .inl f_20))] := by rw [ef_20]; exact hD
  refine lv_aload_n hx hb dX4_append_30 rfl (lv_at hl 1 rfl) ?_
  refine lv_dup hx hb dX4_append_31 rfl ?_
  refine va_get (D := (dC, dI)) (ci := 3) (v := .int 6) (C := RX4) (T := TX4) (N := 2) hx hb hts iX4 hown hK hP 0 rfl rfl 1 (by decide) (hts (.fieldLink RX4 15 "BatchTransfer$Tape" "length" "I") (by decide +kernel)) (fun _ h9 => h9) rfl dX4_append_32 ?_
  refine lv_iconst (v := 1) hx hb dX4_append_35 (by decide) ?_
  refine lv_iadd hx hb dX4_append_36 ?_
  refine lv_topi (fun x_21 ex_21 => ?_)
  obtain rfl : x_21 = 7 := ex_21.trans (by decide)
  refine va_put (D := (dC, dI)) (ci := 3) (v := .int 7) (ty := .int) (C := RX4) (T := TX4) (N := 2) hx hb hts iX4 tyX4 tyX4_ok nmX4 hown hK hP hD hS 0 rfl rfl 1 (by decide) (hts (.fieldLink RX4 15 "BatchTransfer$Tape" "length" "I") (by decide +kernel)) (fun _ h9 => h9) rfl (by decide +kernel) rfl rfl (Nat.le_of_ble_eq_true rfl) dX4_append_37 (fun H locs hP hD hS => ?_)
  have hP : va_P (dC, dI) vwCl [(ta, .inr (3, [.ref tb, .int 7])), (tb, .inl (cT, 3100, .inl f_20))] H := hP
  have hD : va_D A [(ta, .inr (3, [.ref tb, .int 7])), (tb, .inl (cT, 3100, .inl f_20))] := hD
  refine lv_iinc (v := 0) (lv' := [(2, .int 0), (0, .ref ta), (1, .int n0)]) hx hb dX4_append_40 hl (k := 0) rfl (by decide) (by decide) rfl (fun ls hl => ?_)
  refine lv_goto (tgt := 3) hx hb dX4_append_43 (by decide) ?_
  refine lv_iload_n hx hb dX4_append_3 rfl (lv_at hl 0 rfl) ?_
  refine lv_if_lt (tgt := 46) hx hb dX4_append_4 (by decide) (fun c_22 => absurd c_22 (by decide)) (fun c_22 => ?_)
  refine lv_aload_n hx hb dX4_append_7 rfl (lv_at hl 1 rfl) ?_
  refine va_get (D := (dC, dI)) (ci := 3) (v := .int 7) (C := RX4) (T := TX4) (N := 2) hx hb hts iX4 hown hK hP 0 rfl rfl 1 (by decide) (hts (.fieldLink RX4 15 "BatchTransfer$Tape" "length" "I") (by decide +kernel)) (fun _ h9 => h9) rfl dX4_append_8 ?_
  refine lv_sipush (v := 3100) hx hb dX4_append_11 (by decide) ?_
  refine lv_icmp_ge (tgt := 46) hx hb dX4_append_14 (by decide) (fun c_23 => absurd c_23 (by decide)) (fun c_23 => ?_)
  refine lv_aload_n hx hb dX4_append_17 rfl (lv_at hl 1 rfl) ?_
  refine va_get (D := (dC, dI)) (ci := 3) (v := .ref tb) (C := RX4) (T := TX4) (N := 2) hx hb hts iX4 hown hK hP 0 rfl rfl 0 (by decide) (hts (.fieldLink RX4 9 "BatchTransfer$Tape" "bytes" "[B") (by decide +kernel)) (fun _ h9 => h9) rfl dX4_append_18 ?_
  refine lv_aload_n hx hb dX4_append_21 rfl (lv_at hl 1 rfl) ?_
  refine va_get (D := (dC, dI)) (ci := 3) (v := .int 7) (C := RX4) (T := TX4) (N := 2) hx hb hts iX4 hown hK hP 0 rfl rfl 1 (by decide) (hts (.fieldLink RX4 15 "BatchTransfer$Tape" "length" "I") (by decide +kernel)) (fun _ h9 => h9) rfl dX4_append_22 ?_
  refine lv_iload_n hx hb dX4_append_25 rfl (lv_at hl 2 rfl) ?_
  refine lv_iload_n hx hb dX4_append_26 rfl (lv_at hl 0 rfl) ?_
  refine lv_ishr hx hb dX4_append_27 ?_
  refine lv_topi (fun x_24 ex_24 => ?_)
  refine lv_i2b hx hb dX4_append_28 rfl ?_
  refine lv_topi (fun x_25 ex_25 => ?_)
  have h_26 : vp_in (7) 3100 := by unfold vp_in; decide +kernel
  refine va_bast hx hb hK hP hD hS 1 0 rfl rfl h_26 dX4_append_29 (fun H locs hP hD hS => ?_)
  obtain ⟨f_27, ef_27⟩ : ∃ g : Nat → Int32, g = upd f_20 (7 : Int32).toNatClampNeg (vp_nar .byte x_25) := ⟨_, rfl⟩
  have hP : va_P (dC, dI) vwCl [(ta, .inr (3, [.ref tb, .int 7])), (tb, .inl (cT, 3100, .inl f_27))] H := by rw [ef_27]; exact hP
  have hD : va_D A [(ta, .inr (3, [.ref tb, .int 7])), (tb, .inl (cT, 3100, .inl f_27))] := by rw [ef_27]; exact hD
  refine lv_aload_n hx hb dX4_append_30 rfl (lv_at hl 1 rfl) ?_
  refine lv_dup hx hb dX4_append_31 rfl ?_
  refine va_get (D := (dC, dI)) (ci := 3) (v := .int 7) (C := RX4) (T := TX4) (N := 2) hx hb hts iX4 hown hK hP 0 rfl rfl 1 (by decide) (hts (.fieldLink RX4 15 "BatchTransfer$Tape" "length" "I") (by decide +kernel)) (fun _ h9 => h9) rfl dX4_append_32 ?_
  refine lv_iconst (v := 1) hx hb dX4_append_35 (by decide) ?_
  refine lv_iadd hx hb dX4_append_36 ?_
  refine lv_topi (fun x_28 ex_28 => ?_)
  obtain rfl : x_28 = 8 := ex_28.trans (by decide)
  refine va_put (D := (dC, dI)) (ci := 3) (v := .int 8) (ty := .int) (C := RX4) (T := TX4) (N := 2) hx hb hts iX4 tyX4 tyX4_ok nmX4 hown hK hP hD hS 0 rfl rfl 1 (by decide) (hts (.fieldLink RX4 15 "BatchTransfer$Tape" "length" "I") (by decide +kernel)) (fun _ h9 => h9) rfl (by decide +kernel) rfl rfl (Nat.le_of_ble_eq_true rfl) dX4_append_37 (fun H locs hP hD hS => ?_)
  have hP : va_P (dC, dI) vwCl [(ta, .inr (3, [.ref tb, .int 8])), (tb, .inl (cT, 3100, .inl f_27))] H := hP
  have hD : va_D A [(ta, .inr (3, [.ref tb, .int 8])), (tb, .inl (cT, 3100, .inl f_27))] := hD
  refine lv_iinc (v := (-8)) (lv' := [(2, .int (-8)), (0, .ref ta), (1, .int n0)]) hx hb dX4_append_40 hl (k := 0) rfl (by decide) (by decide) rfl (fun ls hl => ?_)
  refine lv_goto (tgt := 3) hx hb dX4_append_43 (by decide) ?_
  refine lv_iload_n hx hb dX4_append_3 rfl (lv_at hl 0 rfl) ?_
  refine lv_if_lt (tgt := 46) hx hb dX4_append_4 (by decide) (fun c_29 => ?_) (fun c_29 => absurd (by decide) c_29)
  have hP9 := hP.sub (ws' := [(ta, .inr (3, [.ref tb, .int 8])), (tb, .inl (cT, 3100, .inl f_27))]) [0, 1] rfl
  have hD9 := hD.sub (ws' := [(ta, .inr (3, [.ref tb, .int 8])), (tb, .inl (cT, 3100, .inl f_27))]) [0, 1] (by decide) rfl
  have hK9 := hK.sub (tys' := [(cT, .byte)]) [0] rfl
  exact W.vret hx hb hr (fun t ht hW => ⟨⟨(f_27), rfl, trivial, by rw [ht]; exact hP9, va_K.moved hW.alike hK9, hD9⟩, hS.F ht⟩) hS.2.2 dX4_append_46

set_option maxHeartbeats 4000000 in
set_option maxRecDepth 100000 in
theorem k_app8 (l : Launch) (dC : Nat → ClassId) (dI : Nat → Nat → Nat) (ta tb : Nat) (cT : ClassId) (tf : Nat → Int32) (n0 : Int32) (sz : Nat) : Met l yX4_append wsX4_append ({ frames := 0, cells := 0, slots := 0, locals := 0 }) (va_Pc [.ref ta, .int n0] (fun U => U.heap.size = sz ∧ va_P (dC, dI) vwCl [(ta, .inr (3, [.ref tb, .int 8])), (tb, .inl (cT, 3100, .inl tf))] U.heap ∧ va_K (dC, dI) vwCl [(cT, .byte)] U ∧ va_D (fun _ => True) [(ta, .inr (3, [.ref tb, .int 8])), (tb, .inl (cT, 3100, .inl tf))])) (va_Qv (fun (tg : (Nat → Int32)) => True) (fun (tg : (Nat → Int32)) (t : State) => va_P (dC, dI) vwCl [(ta, .inr (3, [.ref tb, .int 12])), (tb, .inl (cT, 3100, .inl tg))] t.heap ∧ va_K (dC, dI) vwCl [(cT, .byte)] t ∧ va_D (va_A [(ta, .inr (3, [.ref tb, .int 8])), (tb, .inl (cT, 3100, .inl tf))] sz) [(ta, .inr (3, [.ref tb, .int 12])), (tb, .inl (cT, 3100, .inl tg))]) (va_A [(ta, .inr (3, [.ref tb, .int 8])), (tb, .inl (cT, 3100, .inl tf))] sz)) 0 0 (va_A [(ta, .inr (3, [.ref tb, .int 8])), (tb, .inl (cT, 3100, .inl tf))] sz) := by
  refine Met.ofW (cc := cX4_append) (maxL := 3) (ret := none) (by decide) rfl ?_
  intro p e s m args below meth c s₁ B hml hv
  obtain ⟨rfl, hsz, hP, hK, hD0⟩ := hv
  have hx := B.exec
  have hb := B.bytes
  have hr := B.returns
  have hts := atoms_spec (ws := wsX4_append) B.pre
  have hown : s.vm.findClass RX4 = some m.cls := findClass_of_methodNamed B.named
  have hlocks := B.notSynchronized
  subst hsz
  have hD := hD0.self (sz := s.heap.size)
  generalize hAe : va_A [(ta, .inr (3, [.ref tb, .int 8])), (tb, .inl (cT, 3100, .inl tf))] s.heap.size = A at hD ⊢
  have hA : ∀ q : Nat, s.heap.size ≤ q → A q := fun q h => by rw [← hAe]; exact Or.inr h
  have hS : va_S A s.heap s.heap [] := va_S.rf
  have hP : va_P (dC, dI) vwCl [(ta, .inr (3, [.ref tb, .int 8])), (tb, .inl (cT, 3100, .inl tf))] s.heap := hP
  have hl := lv_entry ([.ref ta, .int n0]) (n := 3) (Nat.le_of_ble_eq_true rfl)
  rw [lg_entry_eq]
  generalize (lg_sl ([.ref ta, .int n0]) ++ List.replicate (3 - (lg_sl ([.ref ta, .int n0])).length) Slot.unset).toArray = ls at hl ⊢
  have hl : lv_has ls 3 [(0, .ref ta), (1, .int n0)] := hl
  have iX4 : ∀ w ∈ wsX40, w ∈ wsX4_append := by decide +kernel
  refine lv_bipush (v := 24) hx hb dX4_append_0 (by decide) ?_
  refine lv_istore_n (lv' := [(2, .int 24), (0, .ref ta), (1, .int n0)]) hx hb dX4_append_2 rfl hl (by decide) rfl (fun ls hl => ?_)
  refine lv_iload_n hx hb dX4_append_3 rfl (lv_at hl 0 rfl) ?_
  refine lv_if_lt (tgt := 46) hx hb dX4_append_4 (by decide) (fun c_1 => absurd c_1 (by decide)) (fun c_1 => ?_)
  refine lv_aload_n hx hb dX4_append_7 rfl (lv_at hl 1 rfl) ?_
  refine va_get (D := (dC, dI)) (ci := 3) (v := .int 8) (C := RX4) (T := TX4) (N := 2) hx hb hts iX4 hown hK hP 0 rfl rfl 1 (by decide) (hts (.fieldLink RX4 15 "BatchTransfer$Tape" "length" "I") (by decide +kernel)) (fun _ h9 => h9) rfl dX4_append_8 ?_
  refine lv_sipush (v := 3100) hx hb dX4_append_11 (by decide) ?_
  refine lv_icmp_ge (tgt := 46) hx hb dX4_append_14 (by decide) (fun c_2 => absurd c_2 (by decide)) (fun c_2 => ?_)
  refine lv_aload_n hx hb dX4_append_17 rfl (lv_at hl 1 rfl) ?_
  refine va_get (D := (dC, dI)) (ci := 3) (v := .ref tb) (C := RX4) (T := TX4) (N := 2) hx hb hts iX4 hown hK hP 0 rfl rfl 0 (by decide) (hts (.fieldLink RX4 9 "BatchTransfer$Tape" "bytes" "[B") (by decide +kernel)) (fun _ h9 => h9) rfl dX4_append_18 ?_
  refine lv_aload_n hx hb dX4_append_21 rfl (lv_at hl 1 rfl) ?_
  refine va_get (D := (dC, dI)) (ci := 3) (v := .int 8) (C := RX4) (T := TX4) (N := 2) hx hb hts iX4 hown hK hP 0 rfl rfl 1 (by decide) (hts (.fieldLink RX4 15 "BatchTransfer$Tape" "length" "I") (by decide +kernel)) (fun _ h9 => h9) rfl dX4_append_22 ?_
  refine lv_iload_n hx hb dX4_append_25 rfl (lv_at hl 2 rfl) ?_
  refine lv_iload_n hx hb dX4_append_26 rfl (lv_at hl 0 rfl) ?_
  refine lv_ishr hx hb dX4_append_27 ?_
  refine lv_topi (fun x_3 ex_3 => ?_)
  refine lv_i2b hx hb dX4_append_28 rfl ?_
  refine lv_topi (fun x_4 ex_4 => ?_)
  have h_5 : vp_in (8) 3100 := by unfold vp_in; decide +kernel
  refine va_bast hx hb hK hP hD hS 1 0 rfl rfl h_5 dX4_append_29 (fun H locs hP hD hS => ?_)
  obtain ⟨f_6, ef_6⟩ : ∃ g : Nat → Int32, g = upd tf (8 : Int32).toNatClampNeg (vp_nar .byte x_4) := ⟨_, rfl⟩
  have hP : va_P (dC, dI) vwCl [(ta, .inr (3, [.ref tb, .int 8])), (tb, .inl (cT, 3100, .inl f_6))] H := by rw [ef_6]; exact hP
  have hD : va_D A [(ta, .inr (3, [.ref tb, .int 8])), (tb, .inl (cT, 3100, .inl f_6))] := by rw [ef_6]; exact hD
  refine lv_aload_n hx hb dX4_append_30 rfl (lv_at hl 1 rfl) ?_
  refine lv_dup hx hb dX4_append_31 rfl ?_
  refine va_get (D := (dC, dI)) (ci := 3) (v := .int 8) (C := RX4) (T := TX4) (N := 2) hx hb hts iX4 hown hK hP 0 rfl rfl 1 (by decide) (hts (.fieldLink RX4 15 "BatchTransfer$Tape" "length" "I") (by decide +kernel)) (fun _ h9 => h9) rfl dX4_append_32 ?_
  refine lv_iconst (v := 1) hx hb dX4_append_35 (by decide) ?_
  refine lv_iadd hx hb dX4_append_36 ?_
  refine lv_topi (fun x_7 ex_7 => ?_)
  obtain rfl : x_7 = 9 := ex_7.trans (by decide)
  refine va_put (D := (dC, dI)) (ci := 3) (v := .int 9) (ty := .int) (C := RX4) (T := TX4) (N := 2) hx hb hts iX4 tyX4 tyX4_ok nmX4 hown hK hP hD hS 0 rfl rfl 1 (by decide) (hts (.fieldLink RX4 15 "BatchTransfer$Tape" "length" "I") (by decide +kernel)) (fun _ h9 => h9) rfl (by decide +kernel) rfl rfl (Nat.le_of_ble_eq_true rfl) dX4_append_37 (fun H locs hP hD hS => ?_)
  have hP : va_P (dC, dI) vwCl [(ta, .inr (3, [.ref tb, .int 9])), (tb, .inl (cT, 3100, .inl f_6))] H := hP
  have hD : va_D A [(ta, .inr (3, [.ref tb, .int 9])), (tb, .inl (cT, 3100, .inl f_6))] := hD
  refine lv_iinc (v := 16) (lv' := [(2, .int 16), (0, .ref ta), (1, .int n0)]) hx hb dX4_append_40 hl (k := 0) rfl (by decide) (by decide) rfl (fun ls hl => ?_)
  refine lv_goto (tgt := 3) hx hb dX4_append_43 (by decide) ?_
  refine lv_iload_n hx hb dX4_append_3 rfl (lv_at hl 0 rfl) ?_
  refine lv_if_lt (tgt := 46) hx hb dX4_append_4 (by decide) (fun c_8 => absurd c_8 (by decide)) (fun c_8 => ?_)
  refine lv_aload_n hx hb dX4_append_7 rfl (lv_at hl 1 rfl) ?_
  refine va_get (D := (dC, dI)) (ci := 3) (v := .int 9) (C := RX4) (T := TX4) (N := 2) hx hb hts iX4 hown hK hP 0 rfl rfl 1 (by decide) (hts (.fieldLink RX4 15 "BatchTransfer$Tape" "length" "I") (by decide +kernel)) (fun _ h9 => h9) rfl dX4_append_8 ?_
  refine lv_sipush (v := 3100) hx hb dX4_append_11 (by decide) ?_
  refine lv_icmp_ge (tgt := 46) hx hb dX4_append_14 (by decide) (fun c_9 => absurd c_9 (by decide)) (fun c_9 => ?_)
  refine lv_aload_n hx hb dX4_append_17 rfl (lv_at hl 1 rfl) ?_
  refine va_get (D := (dC, dI)) (ci := 3) (v := .ref tb) (C := RX4) (T := TX4) (N := 2) hx hb hts iX4 hown hK hP 0 rfl rfl 0 (by decide) (hts (.fieldLink RX4 9 "BatchTransfer$Tape" "bytes" "[B") (by decide +kernel)) (fun _ h9 => h9) rfl dX4_append_18 ?_
  refine lv_aload_n hx hb dX4_append_21 rfl (lv_at hl 1 rfl) ?_
  refine va_get (D := (dC, dI)) (ci := 3) (v := .int 9) (C := RX4) (T := TX4) (N := 2) hx hb hts iX4 hown hK hP 0 rfl rfl 1 (by decide) (hts (.fieldLink RX4 15 "BatchTransfer$Tape" "length" "I") (by decide +kernel)) (fun _ h9 => h9) rfl dX4_append_22 ?_
  refine lv_iload_n hx hb dX4_append_25 rfl (lv_at hl 2 rfl) ?_
  refine lv_iload_n hx hb dX4_append_26 rfl (lv_at hl 0 rfl) ?_
  refine lv_ishr hx hb dX4_append_27 ?_
  refine lv_topi (fun x_10 ex_10 => ?_)
  refine lv_i2b hx hb dX4_append_28 rfl ?_
  refine lv_topi (fun x_11 ex_11 => ?_)
  have h_12 : vp_in (9) 3100 := by unfold vp_in; decide +kernel
  refine va_bast hx hb hK hP hD hS 1 0 rfl rfl h_12 dX4_append_29 (fun H locs hP hD hS => ?_)
  obtain ⟨f_13, ef_13⟩ : ∃ g : Nat → Int32, g = upd f_6 (9 : Int32).toNatClampNeg (vp_nar .byte x_11) := ⟨_, rfl⟩
  have hP : va_P (dC, dI) vwCl [(ta, .inr (3, [.ref tb, .int 9])), (tb, .inl (cT, 3100, .inl f_13))] H := by rw [ef_13]; exact hP
  have hD : va_D A [(ta, .inr (3, [.ref tb, .int 9])), (tb, .inl (cT, 3100, .inl f_13))] := by rw [ef_13]; exact hD
  refine lv_aload_n hx hb dX4_append_30 rfl (lv_at hl 1 rfl) ?_
  refine lv_dup hx hb dX4_append_31 rfl ?_
  refine va_get (D := (dC, dI)) (ci := 3) (v := .int 9) (C := RX4) (T := TX4) (N := 2) hx hb hts iX4 hown hK hP 0 rfl rfl 1 (by decide) (hts (.fieldLink RX4 15 "BatchTransfer$Tape" "length" "I") (by decide +kernel)) (fun _ h9 => h9) rfl dX4_append_32 ?_
  refine lv_iconst (v := 1) hx hb dX4_append_35 (by decide) ?_
  refine lv_iadd hx hb dX4_append_36 ?_
  refine lv_topi (fun x_14 ex_14 => ?_)
  obtain rfl : x_14 = 10 := ex_14.trans (by decide)
  refine va_put (D := (dC, dI)) (ci := 3) (v := .int 10) (ty := .int) (C := RX4) (T := TX4) (N := 2) hx hb hts iX4 tyX4 tyX4_ok nmX4 hown hK hP hD hS 0 rfl rfl 1 (by decide) (hts (.fieldLink RX4 15 "BatchTransfer$Tape" "length" "I") (by decide +kernel)) (fun _ h9 => h9) rfl (by decide +kernel) rfl rfl (Nat.le_of_ble_eq_true rfl) dX4_append_37 (fun H locs hP hD hS => ?_)
  have hP : va_P (dC, dI) vwCl [(ta, .inr (3, [.ref tb, .int 10])), (tb, .inl (cT, 3100, .inl f_13))] H := hP
  have hD : va_D A [(ta, .inr (3, [.ref tb, .int 10])), (tb, .inl (cT, 3100, .inl f_13))] := hD
  refine lv_iinc (v := 8) (lv' := [(2, .int 8), (0, .ref ta), (1, .int n0)]) hx hb dX4_append_40 hl (k := 0) rfl (by decide) (by decide) rfl (fun ls hl => ?_)
  refine lv_goto (tgt := 3) hx hb dX4_append_43 (by decide) ?_
  refine lv_iload_n hx hb dX4_append_3 rfl (lv_at hl 0 rfl) ?_
  refine lv_if_lt (tgt := 46) hx hb dX4_append_4 (by decide) (fun c_15 => absurd c_15 (by decide)) (fun c_15 => ?_)
  refine lv_aload_n hx hb dX4_append_7 rfl (lv_at hl 1 rfl) ?_
  refine va_get (D := (dC, dI)) (ci := 3) (v := .int 10) (C := RX4) (T := TX4) (N := 2) hx hb hts iX4 hown hK hP 0 rfl rfl 1 (by decide) (hts (.fieldLink RX4 15 "BatchTransfer$Tape" "length" "I") (by decide +kernel)) (fun _ h9 => h9) rfl dX4_append_8 ?_
  refine lv_sipush (v := 3100) hx hb dX4_append_11 (by decide) ?_
  refine lv_icmp_ge (tgt := 46) hx hb dX4_append_14 (by decide) (fun c_16 => absurd c_16 (by decide)) (fun c_16 => ?_)
  refine lv_aload_n hx hb dX4_append_17 rfl (lv_at hl 1 rfl) ?_
  refine va_get (D := (dC, dI)) (ci := 3) (v := .ref tb) (C := RX4) (T := TX4) (N := 2) hx hb hts iX4 hown hK hP 0 rfl rfl 0 (by decide) (hts (.fieldLink RX4 9 "BatchTransfer$Tape" "bytes" "[B") (by decide +kernel)) (fun _ h9 => h9) rfl dX4_append_18 ?_
  refine lv_aload_n hx hb dX4_append_21 rfl (lv_at hl 1 rfl) ?_
  refine va_get (D := (dC, dI)) (ci := 3) (v := .int 10) (C := RX4) (T := TX4) (N := 2) hx hb hts iX4 hown hK hP 0 rfl rfl 1 (by decide) (hts (.fieldLink RX4 15 "BatchTransfer$Tape" "length" "I") (by decide +kernel)) (fun _ h9 => h9) rfl dX4_append_22 ?_
  refine lv_iload_n hx hb dX4_append_25 rfl (lv_at hl 2 rfl) ?_
  refine lv_iload_n hx hb dX4_append_26 rfl (lv_at hl 0 rfl) ?_
  refine lv_ishr hx hb dX4_append_27 ?_
  refine lv_topi (fun x_17 ex_17 => ?_)
  refine lv_i2b hx hb dX4_append_28 rfl ?_
  refine lv_topi (fun x_18 ex_18 => ?_)
  have h_19 : vp_in (10) 3100 := by unfold vp_in; decide +kernel
  refine va_bast hx hb hK hP hD hS 1 0 rfl rfl h_19 dX4_append_29 (fun H locs hP hD hS => ?_)
  obtain ⟨f_20, ef_20⟩ : ∃ g : Nat → Int32, g = upd f_13 (10 : Int32).toNatClampNeg (vp_nar .byte x_18) := ⟨_, rfl⟩
  have hP : va_P (dC, dI) vwCl [(ta, .inr (3, [.ref tb, .int 10])), (tb, .inl (cT, 3100, .inl f_20))] H := by rw [ef_20]; exact hP
  have hD : va_D A [(ta, .inr (3, [.ref tb, .int 10])), (tb, .inl (cT, 3100, .inl f_20))] := by rw [ef_20]; exact hD
  refine lv_aload_n hx hb dX4_append_30 rfl (lv_at hl 1 rfl) ?_
  refine lv_dup hx hb dX4_append_31 rfl ?_
  refine va_get (D := (dC, dI)) (ci := 3) (v := .int 10) (C := RX4) (T := TX4) (N := 2) hx hb hts iX4 hown hK hP 0 rfl rfl 1 (by decide) (hts (.fieldLink RX4 15 "BatchTransfer$Tape" "length" "I") (by decide +kernel)) (fun _ h9 => h9) rfl dX4_append_32 ?_
  refine lv_iconst (v := 1) hx hb dX4_append_35 (by decide) ?_
  refine lv_iadd hx hb dX4_append_36 ?_
  refine lv_topi (fun x_21 ex_21 => ?_)
  obtain rfl : x_21 = 11 := ex_21.trans (by decide)
  refine va_put (D := (dC, dI)) (ci := 3) (v := .int 11) (ty := .int) (C := RX4) (T := TX4) (N := 2) hx hb hts iX4 tyX4 tyX4_ok nmX4 hown hK hP hD hS 0 rfl rfl 1 (by decide) (hts (.fieldLink RX4 15 "BatchTransfer$Tape" "length" "I") (by decide +kernel)) (fun _ h9 => h9) rfl (by decide +kernel) rfl rfl (Nat.le_of_ble_eq_true rfl) dX4_append_37 (fun H locs hP hD hS => ?_)
  have hP : va_P (dC, dI) vwCl [(ta, .inr (3, [.ref tb, .int 11])), (tb, .inl (cT, 3100, .inl f_20))] H := hP
  have hD : va_D A [(ta, .inr (3, [.ref tb, .int 11])), (tb, .inl (cT, 3100, .inl f_20))] := hD
  refine lv_iinc (v := 0) (lv' := [(2, .int 0), (0, .ref ta), (1, .int n0)]) hx hb dX4_append_40 hl (k := 0) rfl (by decide) (by decide) rfl (fun ls hl => ?_)
  refine lv_goto (tgt := 3) hx hb dX4_append_43 (by decide) ?_
  refine lv_iload_n hx hb dX4_append_3 rfl (lv_at hl 0 rfl) ?_
  refine lv_if_lt (tgt := 46) hx hb dX4_append_4 (by decide) (fun c_22 => absurd c_22 (by decide)) (fun c_22 => ?_)
  refine lv_aload_n hx hb dX4_append_7 rfl (lv_at hl 1 rfl) ?_
  refine va_get (D := (dC, dI)) (ci := 3) (v := .int 11) (C := RX4) (T := TX4) (N := 2) hx hb hts iX4 hown hK hP 0 rfl rfl 1 (by decide) (hts (.fieldLink RX4 15 "BatchTransfer$Tape" "length" "I") (by decide +kernel)) (fun _ h9 => h9) rfl dX4_append_8 ?_
  refine lv_sipush (v := 3100) hx hb dX4_append_11 (by decide) ?_
  refine lv_icmp_ge (tgt := 46) hx hb dX4_append_14 (by decide) (fun c_23 => absurd c_23 (by decide)) (fun c_23 => ?_)
  refine lv_aload_n hx hb dX4_append_17 rfl (lv_at hl 1 rfl) ?_
  refine va_get (D := (dC, dI)) (ci := 3) (v := .ref tb) (C := RX4) (T := TX4) (N := 2) hx hb hts iX4 hown hK hP 0 rfl rfl 0 (by decide) (hts (.fieldLink RX4 9 "BatchTransfer$Tape" "bytes" "[B") (by decide +kernel)) (fun _ h9 => h9) rfl dX4_append_18 ?_
  refine lv_aload_n hx hb dX4_append_21 rfl (lv_at hl 1 rfl) ?_
  refine va_get (D := (dC, dI)) (ci := 3) (v := .int 11) (C := RX4) (T := TX4) (N := 2) hx hb hts iX4 hown hK hP 0 rfl rfl 1 (by decide) (hts (.fieldLink RX4 15 "BatchTransfer$Tape" "length" "I") (by decide +kernel)) (fun _ h9 => h9) rfl dX4_append_22 ?_
  refine lv_iload_n hx hb dX4_append_25 rfl (lv_at hl 2 rfl) ?_
  refine lv_iload_n hx hb dX4_append_26 rfl (lv_at hl 0 rfl) ?_
  refine lv_ishr hx hb dX4_append_27 ?_
  refine lv_topi (fun x_24 ex_24 => ?_)
  refine lv_i2b hx hb dX4_append_28 rfl ?_
  refine lv_topi (fun x_25 ex_25 => ?_)
  have h_26 : vp_in (11) 3100 := by unfold vp_in; decide +kernel
  refine va_bast hx hb hK hP hD hS 1 0 rfl rfl h_26 dX4_append_29 (fun H locs hP hD hS => ?_)
  obtain ⟨f_27, ef_27⟩ : ∃ g : Nat → Int32, g = upd f_20 (11 : Int32).toNatClampNeg (vp_nar .byte x_25) := ⟨_, rfl⟩
  have hP : va_P (dC, dI) vwCl [(ta, .inr (3, [.ref tb, .int 11])), (tb, .inl (cT, 3100, .inl f_27))] H := by rw [ef_27]; exact hP
  have hD : va_D A [(ta, .inr (3, [.ref tb, .int 11])), (tb, .inl (cT, 3100, .inl f_27))] := by rw [ef_27]; exact hD
  refine lv_aload_n hx hb dX4_append_30 rfl (lv_at hl 1 rfl) ?_
  refine lv_dup hx hb dX4_append_31 rfl ?_
  refine va_get (D := (dC, dI)) (ci := 3) (v := .int 11) (C := RX4) (T := TX4) (N := 2) hx hb hts iX4 hown hK hP 0 rfl rfl 1 (by decide) (hts (.fieldLink RX4 15 "BatchTransfer$Tape" "length" "I") (by decide +kernel)) (fun _ h9 => h9) rfl dX4_append_32 ?_
  refine lv_iconst (v := 1) hx hb dX4_append_35 (by decide) ?_
  refine lv_iadd hx hb dX4_append_36 ?_
  refine lv_topi (fun x_28 ex_28 => ?_)
  obtain rfl : x_28 = 12 := ex_28.trans (by decide)
  refine va_put (D := (dC, dI)) (ci := 3) (v := .int 12) (ty := .int) (C := RX4) (T := TX4) (N := 2) hx hb hts iX4 tyX4 tyX4_ok nmX4 hown hK hP hD hS 0 rfl rfl 1 (by decide) (hts (.fieldLink RX4 15 "BatchTransfer$Tape" "length" "I") (by decide +kernel)) (fun _ h9 => h9) rfl (by decide +kernel) rfl rfl (Nat.le_of_ble_eq_true rfl) dX4_append_37 (fun H locs hP hD hS => ?_)
  have hP : va_P (dC, dI) vwCl [(ta, .inr (3, [.ref tb, .int 12])), (tb, .inl (cT, 3100, .inl f_27))] H := hP
  have hD : va_D A [(ta, .inr (3, [.ref tb, .int 12])), (tb, .inl (cT, 3100, .inl f_27))] := hD
  refine lv_iinc (v := (-8)) (lv' := [(2, .int (-8)), (0, .ref ta), (1, .int n0)]) hx hb dX4_append_40 hl (k := 0) rfl (by decide) (by decide) rfl (fun ls hl => ?_)
  refine lv_goto (tgt := 3) hx hb dX4_append_43 (by decide) ?_
  refine lv_iload_n hx hb dX4_append_3 rfl (lv_at hl 0 rfl) ?_
  refine lv_if_lt (tgt := 46) hx hb dX4_append_4 (by decide) (fun c_29 => ?_) (fun c_29 => absurd (by decide) c_29)
  have hP9 := hP.sub (ws' := [(ta, .inr (3, [.ref tb, .int 12])), (tb, .inl (cT, 3100, .inl f_27))]) [0, 1] rfl
  have hD9 := hD.sub (ws' := [(ta, .inr (3, [.ref tb, .int 12])), (tb, .inl (cT, 3100, .inl f_27))]) [0, 1] (by decide) rfl
  have hK9 := hK.sub (tys' := [(cT, .byte)]) [0] rfl
  exact W.vret hx hb hr (fun t ht hW => ⟨⟨(f_27), rfl, trivial, by rw [ht]; exact hP9, va_K.moved hW.alike hK9, hD9⟩, hS.F ht⟩) hS.2.2 dX4_append_46

set_option maxHeartbeats 4000000 in
set_option maxRecDepth 100000 in
theorem k_app12 (l : Launch) (dC : Nat → ClassId) (dI : Nat → Nat → Nat) (ta tb : Nat) (cT : ClassId) (tf : Nat → Int32) (n0 : Int32) (sz : Nat) : Met l yX4_append wsX4_append ({ frames := 0, cells := 0, slots := 0, locals := 0 }) (va_Pc [.ref ta, .int n0] (fun U => U.heap.size = sz ∧ va_P (dC, dI) vwCl [(ta, .inr (3, [.ref tb, .int 12])), (tb, .inl (cT, 3100, .inl tf))] U.heap ∧ va_K (dC, dI) vwCl [(cT, .byte)] U ∧ va_D (fun _ => True) [(ta, .inr (3, [.ref tb, .int 12])), (tb, .inl (cT, 3100, .inl tf))])) (va_Qv (fun (tg : (Nat → Int32)) => True) (fun (tg : (Nat → Int32)) (t : State) => va_P (dC, dI) vwCl [(ta, .inr (3, [.ref tb, .int 16])), (tb, .inl (cT, 3100, .inl tg))] t.heap ∧ va_K (dC, dI) vwCl [(cT, .byte)] t ∧ va_D (va_A [(ta, .inr (3, [.ref tb, .int 12])), (tb, .inl (cT, 3100, .inl tf))] sz) [(ta, .inr (3, [.ref tb, .int 16])), (tb, .inl (cT, 3100, .inl tg))]) (va_A [(ta, .inr (3, [.ref tb, .int 12])), (tb, .inl (cT, 3100, .inl tf))] sz)) 0 0 (va_A [(ta, .inr (3, [.ref tb, .int 12])), (tb, .inl (cT, 3100, .inl tf))] sz) := by
  refine Met.ofW (cc := cX4_append) (maxL := 3) (ret := none) (by decide) rfl ?_
  intro p e s m args below meth c s₁ B hml hv
  obtain ⟨rfl, hsz, hP, hK, hD0⟩ := hv
  have hx := B.exec
  have hb := B.bytes
  have hr := B.returns
  have hts := atoms_spec (ws := wsX4_append) B.pre
  have hown : s.vm.findClass RX4 = some m.cls := findClass_of_methodNamed B.named
  have hlocks := B.notSynchronized
  subst hsz
  have hD := hD0.self (sz := s.heap.size)
  generalize hAe : va_A [(ta, .inr (3, [.ref tb, .int 12])), (tb, .inl (cT, 3100, .inl tf))] s.heap.size = A at hD ⊢
  have hA : ∀ q : Nat, s.heap.size ≤ q → A q := fun q h => by rw [← hAe]; exact Or.inr h
  have hS : va_S A s.heap s.heap [] := va_S.rf
  have hP : va_P (dC, dI) vwCl [(ta, .inr (3, [.ref tb, .int 12])), (tb, .inl (cT, 3100, .inl tf))] s.heap := hP
  have hl := lv_entry ([.ref ta, .int n0]) (n := 3) (Nat.le_of_ble_eq_true rfl)
  rw [lg_entry_eq]
  generalize (lg_sl ([.ref ta, .int n0]) ++ List.replicate (3 - (lg_sl ([.ref ta, .int n0])).length) Slot.unset).toArray = ls at hl ⊢
  have hl : lv_has ls 3 [(0, .ref ta), (1, .int n0)] := hl
  have iX4 : ∀ w ∈ wsX40, w ∈ wsX4_append := by decide +kernel
  refine lv_bipush (v := 24) hx hb dX4_append_0 (by decide) ?_
  refine lv_istore_n (lv' := [(2, .int 24), (0, .ref ta), (1, .int n0)]) hx hb dX4_append_2 rfl hl (by decide) rfl (fun ls hl => ?_)
  refine lv_iload_n hx hb dX4_append_3 rfl (lv_at hl 0 rfl) ?_
  refine lv_if_lt (tgt := 46) hx hb dX4_append_4 (by decide) (fun c_1 => absurd c_1 (by decide)) (fun c_1 => ?_)
  refine lv_aload_n hx hb dX4_append_7 rfl (lv_at hl 1 rfl) ?_
  refine va_get (D := (dC, dI)) (ci := 3) (v := .int 12) (C := RX4) (T := TX4) (N := 2) hx hb hts iX4 hown hK hP 0 rfl rfl 1 (by decide) (hts (.fieldLink RX4 15 "BatchTransfer$Tape" "length" "I") (by decide +kernel)) (fun _ h9 => h9) rfl dX4_append_8 ?_
  refine lv_sipush (v := 3100) hx hb dX4_append_11 (by decide) ?_
  refine lv_icmp_ge (tgt := 46) hx hb dX4_append_14 (by decide) (fun c_2 => absurd c_2 (by decide)) (fun c_2 => ?_)
  refine lv_aload_n hx hb dX4_append_17 rfl (lv_at hl 1 rfl) ?_
  refine va_get (D := (dC, dI)) (ci := 3) (v := .ref tb) (C := RX4) (T := TX4) (N := 2) hx hb hts iX4 hown hK hP 0 rfl rfl 0 (by decide) (hts (.fieldLink RX4 9 "BatchTransfer$Tape" "bytes" "[B") (by decide +kernel)) (fun _ h9 => h9) rfl dX4_append_18 ?_
  refine lv_aload_n hx hb dX4_append_21 rfl (lv_at hl 1 rfl) ?_
  refine va_get (D := (dC, dI)) (ci := 3) (v := .int 12) (C := RX4) (T := TX4) (N := 2) hx hb hts iX4 hown hK hP 0 rfl rfl 1 (by decide) (hts (.fieldLink RX4 15 "BatchTransfer$Tape" "length" "I") (by decide +kernel)) (fun _ h9 => h9) rfl dX4_append_22 ?_
  refine lv_iload_n hx hb dX4_append_25 rfl (lv_at hl 2 rfl) ?_
  refine lv_iload_n hx hb dX4_append_26 rfl (lv_at hl 0 rfl) ?_
  refine lv_ishr hx hb dX4_append_27 ?_
  refine lv_topi (fun x_3 ex_3 => ?_)
  refine lv_i2b hx hb dX4_append_28 rfl ?_
  refine lv_topi (fun x_4 ex_4 => ?_)
  have h_5 : vp_in (12) 3100 := by unfold vp_in; decide +kernel
  refine va_bast hx hb hK hP hD hS 1 0 rfl rfl h_5 dX4_append_29 (fun H locs hP hD hS => ?_)
  obtain ⟨f_6, ef_6⟩ : ∃ g : Nat → Int32, g = upd tf (12 : Int32).toNatClampNeg (vp_nar .byte x_4) := ⟨_, rfl⟩
  have hP : va_P (dC, dI) vwCl [(ta, .inr (3, [.ref tb, .int 12])), (tb, .inl (cT, 3100, .inl f_6))] H := by rw [ef_6]; exact hP
  have hD : va_D A [(ta, .inr (3, [.ref tb, .int 12])), (tb, .inl (cT, 3100, .inl f_6))] := by rw [ef_6]; exact hD
  refine lv_aload_n hx hb dX4_append_30 rfl (lv_at hl 1 rfl) ?_
  refine lv_dup hx hb dX4_append_31 rfl ?_
  refine va_get (D := (dC, dI)) (ci := 3) (v := .int 12) (C := RX4) (T := TX4) (N := 2) hx hb hts iX4 hown hK hP 0 rfl rfl 1 (by decide) (hts (.fieldLink RX4 15 "BatchTransfer$Tape" "length" "I") (by decide +kernel)) (fun _ h9 => h9) rfl dX4_append_32 ?_
  refine lv_iconst (v := 1) hx hb dX4_append_35 (by decide) ?_
  refine lv_iadd hx hb dX4_append_36 ?_
  refine lv_topi (fun x_7 ex_7 => ?_)
  obtain rfl : x_7 = 13 := ex_7.trans (by decide)
  refine va_put (D := (dC, dI)) (ci := 3) (v := .int 13) (ty := .int) (C := RX4) (T := TX4) (N := 2) hx hb hts iX4 tyX4 tyX4_ok nmX4 hown hK hP hD hS 0 rfl rfl 1 (by decide) (hts (.fieldLink RX4 15 "BatchTransfer$Tape" "length" "I") (by decide +kernel)) (fun _ h9 => h9) rfl (by decide +kernel) rfl rfl (Nat.le_of_ble_eq_true rfl) dX4_append_37 (fun H locs hP hD hS => ?_)
  have hP : va_P (dC, dI) vwCl [(ta, .inr (3, [.ref tb, .int 13])), (tb, .inl (cT, 3100, .inl f_6))] H := hP
  have hD : va_D A [(ta, .inr (3, [.ref tb, .int 13])), (tb, .inl (cT, 3100, .inl f_6))] := hD
  refine lv_iinc (v := 16) (lv' := [(2, .int 16), (0, .ref ta), (1, .int n0)]) hx hb dX4_append_40 hl (k := 0) rfl (by decide) (by decide) rfl (fun ls hl => ?_)
  refine lv_goto (tgt := 3) hx hb dX4_append_43 (by decide) ?_
  refine lv_iload_n hx hb dX4_append_3 rfl (lv_at hl 0 rfl) ?_
  refine lv_if_lt (tgt := 46) hx hb dX4_append_4 (by decide) (fun c_8 => absurd c_8 (by decide)) (fun c_8 => ?_)
  refine lv_aload_n hx hb dX4_append_7 rfl (lv_at hl 1 rfl) ?_
  refine va_get (D := (dC, dI)) (ci := 3) (v := .int 13) (C := RX4) (T := TX4) (N := 2) hx hb hts iX4 hown hK hP 0 rfl rfl 1 (by decide) (hts (.fieldLink RX4 15 "BatchTransfer$Tape" "length" "I") (by decide +kernel)) (fun _ h9 => h9) rfl dX4_append_8 ?_
  refine lv_sipush (v := 3100) hx hb dX4_append_11 (by decide) ?_
  refine lv_icmp_ge (tgt := 46) hx hb dX4_append_14 (by decide) (fun c_9 => absurd c_9 (by decide)) (fun c_9 => ?_)
  refine lv_aload_n hx hb dX4_append_17 rfl (lv_at hl 1 rfl) ?_
  refine va_get (D := (dC, dI)) (ci := 3) (v := .ref tb) (C := RX4) (T := TX4) (N := 2) hx hb hts iX4 hown hK hP 0 rfl rfl 0 (by decide) (hts (.fieldLink RX4 9 "BatchTransfer$Tape" "bytes" "[B") (by decide +kernel)) (fun _ h9 => h9) rfl dX4_append_18 ?_
  refine lv_aload_n hx hb dX4_append_21 rfl (lv_at hl 1 rfl) ?_
  refine va_get (D := (dC, dI)) (ci := 3) (v := .int 13) (C := RX4) (T := TX4) (N := 2) hx hb hts iX4 hown hK hP 0 rfl rfl 1 (by decide) (hts (.fieldLink RX4 15 "BatchTransfer$Tape" "length" "I") (by decide +kernel)) (fun _ h9 => h9) rfl dX4_append_22 ?_
  refine lv_iload_n hx hb dX4_append_25 rfl (lv_at hl 2 rfl) ?_
  refine lv_iload_n hx hb dX4_append_26 rfl (lv_at hl 0 rfl) ?_
  refine lv_ishr hx hb dX4_append_27 ?_
  refine lv_topi (fun x_10 ex_10 => ?_)
  refine lv_i2b hx hb dX4_append_28 rfl ?_
  refine lv_topi (fun x_11 ex_11 => ?_)
  have h_12 : vp_in (13) 3100 := by unfold vp_in; decide +kernel
  refine va_bast hx hb hK hP hD hS 1 0 rfl rfl h_12 dX4_append_29 (fun H locs hP hD hS => ?_)
  obtain ⟨f_13, ef_13⟩ : ∃ g : Nat → Int32, g = upd f_6 (13 : Int32).toNatClampNeg (vp_nar .byte x_11) := ⟨_, rfl⟩
  have hP : va_P (dC, dI) vwCl [(ta, .inr (3, [.ref tb, .int 13])), (tb, .inl (cT, 3100, .inl f_13))] H := by rw [ef_13]; exact hP
  have hD : va_D A [(ta, .inr (3, [.ref tb, .int 13])), (tb, .inl (cT, 3100, .inl f_13))] := by rw [ef_13]; exact hD
  refine lv_aload_n hx hb dX4_append_30 rfl (lv_at hl 1 rfl) ?_
  refine lv_dup hx hb dX4_append_31 rfl ?_
  refine va_get (D := (dC, dI)) (ci := 3) (v := .int 13) (C := RX4) (T := TX4) (N := 2) hx hb hts iX4 hown hK hP 0 rfl rfl 1 (by decide) (hts (.fieldLink RX4 15 "BatchTransfer$Tape" "length" "I") (by decide +kernel)) (fun _ h9 => h9) rfl dX4_append_32 ?_
  refine lv_iconst (v := 1) hx hb dX4_append_35 (by decide) ?_
  refine lv_iadd hx hb dX4_append_36 ?_
  refine lv_topi (fun x_14 ex_14 => ?_)
  obtain rfl : x_14 = 14 := ex_14.trans (by decide)
  refine va_put (D := (dC, dI)) (ci := 3) (v := .int 14) (ty := .int) (C := RX4) (T := TX4) (N := 2) hx hb hts iX4 tyX4 tyX4_ok nmX4 hown hK hP hD hS 0 rfl rfl 1 (by decide) (hts (.fieldLink RX4 15 "BatchTransfer$Tape" "length" "I") (by decide +kernel)) (fun _ h9 => h9) rfl (by decide +kernel) rfl rfl (Nat.le_of_ble_eq_true rfl) dX4_append_37 (fun H locs hP hD hS => ?_)
  have hP : va_P (dC, dI) vwCl [(ta, .inr (3, [.ref tb, .int 14])), (tb, .inl (cT, 3100, .inl f_13))] H := hP
  have hD : va_D A [(ta, .inr (3, [.ref tb, .int 14])), (tb, .inl (cT, 3100, .inl f_13))] := hD
  refine lv_iinc (v := 8) (lv' := [(2, .int 8), (0, .ref ta), (1, .int n0)]) hx hb dX4_append_40 hl (k := 0) rfl (by decide) (by decide) rfl (fun ls hl => ?_)
  refine lv_goto (tgt := 3) hx hb dX4_append_43 (by decide) ?_
  refine lv_iload_n hx hb dX4_append_3 rfl (lv_at hl 0 rfl) ?_
  refine lv_if_lt (tgt := 46) hx hb dX4_append_4 (by decide) (fun c_15 => absurd c_15 (by decide)) (fun c_15 => ?_)
  refine lv_aload_n hx hb dX4_append_7 rfl (lv_at hl 1 rfl) ?_
  refine va_get (D := (dC, dI)) (ci := 3) (v := .int 14) (C := RX4) (T := TX4) (N := 2) hx hb hts iX4 hown hK hP 0 rfl rfl 1 (by decide) (hts (.fieldLink RX4 15 "BatchTransfer$Tape" "length" "I") (by decide +kernel)) (fun _ h9 => h9) rfl dX4_append_8 ?_
  refine lv_sipush (v := 3100) hx hb dX4_append_11 (by decide) ?_
  refine lv_icmp_ge (tgt := 46) hx hb dX4_append_14 (by decide) (fun c_16 => absurd c_16 (by decide)) (fun c_16 => ?_)
  refine lv_aload_n hx hb dX4_append_17 rfl (lv_at hl 1 rfl) ?_
  refine va_get (D := (dC, dI)) (ci := 3) (v := .ref tb) (C := RX4) (T := TX4) (N := 2) hx hb hts iX4 hown hK hP 0 rfl rfl 0 (by decide) (hts (.fieldLink RX4 9 "BatchTransfer$Tape" "bytes" "[B") (by decide +kernel)) (fun _ h9 => h9) rfl dX4_append_18 ?_
  refine lv_aload_n hx hb dX4_append_21 rfl (lv_at hl 1 rfl) ?_
  refine va_get (D := (dC, dI)) (ci := 3) (v := .int 14) (C := RX4) (T := TX4) (N := 2) hx hb hts iX4 hown hK hP 0 rfl rfl 1 (by decide) (hts (.fieldLink RX4 15 "BatchTransfer$Tape" "length" "I") (by decide +kernel)) (fun _ h9 => h9) rfl dX4_append_22 ?_
  refine lv_iload_n hx hb dX4_append_25 rfl (lv_at hl 2 rfl) ?_
  refine lv_iload_n hx hb dX4_append_26 rfl (lv_at hl 0 rfl) ?_
  refine lv_ishr hx hb dX4_append_27 ?_
  refine lv_topi (fun x_17 ex_17 => ?_)
  refine lv_i2b hx hb dX4_append_28 rfl ?_
  refine lv_topi (fun x_18 ex_18 => ?_)
  have h_19 : vp_in (14) 3100 := by unfold vp_in; decide +kernel
  refine va_bast hx hb hK hP hD hS 1 0 rfl rfl h_19 dX4_append_29 (fun H locs hP hD hS => ?_)
  obtain ⟨f_20, ef_20⟩ : ∃ g : Nat → Int32, g = upd f_13 (14 : Int32).toNatClampNeg (vp_nar .byte x_18) := ⟨_, rfl⟩
  have hP : va_P (dC, dI) vwCl [(ta, .inr (3, [.ref tb, .int 14])), (tb, .inl (cT, 3100, .inl f_20))] H := by rw [ef_20]; exact hP
  have hD : va_D A [(ta, .inr (3, [.ref tb, .int 14])), (tb, .inl (cT, 3100, .inl f_20))] := by rw [ef_20]; exact hD
  refine lv_aload_n hx hb dX4_append_30 rfl (lv_at hl 1 rfl) ?_
  refine lv_dup hx hb dX4_append_31 rfl ?_
  refine va_get (D := (dC, dI)) (ci := 3) (v := .int 14) (C := RX4) (T := TX4) (N := 2) hx hb hts iX4 hown hK hP 0 rfl rfl 1 (by decide) (hts (.fieldLink RX4 15 "BatchTransfer$Tape" "length" "I") (by decide +kernel)) (fun _ h9 => h9) rfl dX4_append_32 ?_
  refine lv_iconst (v := 1) hx hb dX4_append_35 (by decide) ?_
  refine lv_iadd hx hb dX4_append_36 ?_
  refine lv_topi (fun x_21 ex_21 => ?_)
  obtain rfl : x_21 = 15 := ex_21.trans (by decide)
  refine va_put (D := (dC, dI)) (ci := 3) (v := .int 15) (ty := .int) (C := RX4) (T := TX4) (N := 2) hx hb hts iX4 tyX4 tyX4_ok nmX4 hown hK hP hD hS 0 rfl rfl 1 (by decide) (hts (.fieldLink RX4 15 "BatchTransfer$Tape" "length" "I") (by decide +kernel)) (fun _ h9 => h9) rfl (by decide +kernel) rfl rfl (Nat.le_of_ble_eq_true rfl) dX4_append_37 (fun H locs hP hD hS => ?_)
  have hP : va_P (dC, dI) vwCl [(ta, .inr (3, [.ref tb, .int 15])), (tb, .inl (cT, 3100, .inl f_20))] H := hP
  have hD : va_D A [(ta, .inr (3, [.ref tb, .int 15])), (tb, .inl (cT, 3100, .inl f_20))] := hD
  refine lv_iinc (v := 0) (lv' := [(2, .int 0), (0, .ref ta), (1, .int n0)]) hx hb dX4_append_40 hl (k := 0) rfl (by decide) (by decide) rfl (fun ls hl => ?_)
  refine lv_goto (tgt := 3) hx hb dX4_append_43 (by decide) ?_
  refine lv_iload_n hx hb dX4_append_3 rfl (lv_at hl 0 rfl) ?_
  refine lv_if_lt (tgt := 46) hx hb dX4_append_4 (by decide) (fun c_22 => absurd c_22 (by decide)) (fun c_22 => ?_)
  refine lv_aload_n hx hb dX4_append_7 rfl (lv_at hl 1 rfl) ?_
  refine va_get (D := (dC, dI)) (ci := 3) (v := .int 15) (C := RX4) (T := TX4) (N := 2) hx hb hts iX4 hown hK hP 0 rfl rfl 1 (by decide) (hts (.fieldLink RX4 15 "BatchTransfer$Tape" "length" "I") (by decide +kernel)) (fun _ h9 => h9) rfl dX4_append_8 ?_
  refine lv_sipush (v := 3100) hx hb dX4_append_11 (by decide) ?_
  refine lv_icmp_ge (tgt := 46) hx hb dX4_append_14 (by decide) (fun c_23 => absurd c_23 (by decide)) (fun c_23 => ?_)
  refine lv_aload_n hx hb dX4_append_17 rfl (lv_at hl 1 rfl) ?_
  refine va_get (D := (dC, dI)) (ci := 3) (v := .ref tb) (C := RX4) (T := TX4) (N := 2) hx hb hts iX4 hown hK hP 0 rfl rfl 0 (by decide) (hts (.fieldLink RX4 9 "BatchTransfer$Tape" "bytes" "[B") (by decide +kernel)) (fun _ h9 => h9) rfl dX4_append_18 ?_
  refine lv_aload_n hx hb dX4_append_21 rfl (lv_at hl 1 rfl) ?_
  refine va_get (D := (dC, dI)) (ci := 3) (v := .int 15) (C := RX4) (T := TX4) (N := 2) hx hb hts iX4 hown hK hP 0 rfl rfl 1 (by decide) (hts (.fieldLink RX4 15 "BatchTransfer$Tape" "length" "I") (by decide +kernel)) (fun _ h9 => h9) rfl dX4_append_22 ?_
  refine lv_iload_n hx hb dX4_append_25 rfl (lv_at hl 2 rfl) ?_
  refine lv_iload_n hx hb dX4_append_26 rfl (lv_at hl 0 rfl) ?_
  refine lv_ishr hx hb dX4_append_27 ?_
  refine lv_topi (fun x_24 ex_24 => ?_)
  refine lv_i2b hx hb dX4_append_28 rfl ?_
  refine lv_topi (fun x_25 ex_25 => ?_)
  have h_26 : vp_in (15) 3100 := by unfold vp_in; decide +kernel
  refine va_bast hx hb hK hP hD hS 1 0 rfl rfl h_26 dX4_append_29 (fun H locs hP hD hS => ?_)
  obtain ⟨f_27, ef_27⟩ : ∃ g : Nat → Int32, g = upd f_20 (15 : Int32).toNatClampNeg (vp_nar .byte x_25) := ⟨_, rfl⟩
  have hP : va_P (dC, dI) vwCl [(ta, .inr (3, [.ref tb, .int 15])), (tb, .inl (cT, 3100, .inl f_27))] H := by rw [ef_27]; exact hP
  have hD : va_D A [(ta, .inr (3, [.ref tb, .int 15])), (tb, .inl (cT, 3100, .inl f_27))] := by rw [ef_27]; exact hD
  refine lv_aload_n hx hb dX4_append_30 rfl (lv_at hl 1 rfl) ?_
  refine lv_dup hx hb dX4_append_31 rfl ?_
  refine va_get (D := (dC, dI)) (ci := 3) (v := .int 15) (C := RX4) (T := TX4) (N := 2) hx hb hts iX4 hown hK hP 0 rfl rfl 1 (by decide) (hts (.fieldLink RX4 15 "BatchTransfer$Tape" "length" "I") (by decide +kernel)) (fun _ h9 => h9) rfl dX4_append_32 ?_
  refine lv_iconst (v := 1) hx hb dX4_append_35 (by decide) ?_
  refine lv_iadd hx hb dX4_append_36 ?_
  refine lv_topi (fun x_28 ex_28 => ?_)
  obtain rfl : x_28 = 16 := ex_28.trans (by decide)
  refine va_put (D := (dC, dI)) (ci := 3) (v := .int 16) (ty := .int) (C := RX4) (T := TX4) (N := 2) hx hb hts iX4 tyX4 tyX4_ok nmX4 hown hK hP hD hS 0 rfl rfl 1 (by decide) (hts (.fieldLink RX4 15 "BatchTransfer$Tape" "length" "I") (by decide +kernel)) (fun _ h9 => h9) rfl (by decide +kernel) rfl rfl (Nat.le_of_ble_eq_true rfl) dX4_append_37 (fun H locs hP hD hS => ?_)
  have hP : va_P (dC, dI) vwCl [(ta, .inr (3, [.ref tb, .int 16])), (tb, .inl (cT, 3100, .inl f_27))] H := hP
  have hD : va_D A [(ta, .inr (3, [.ref tb, .int 16])), (tb, .inl (cT, 3100, .inl f_27))] := hD
  refine lv_iinc (v := (-8)) (lv' := [(2, .int (-8)), (0, .ref ta), (1, .int n0)]) hx hb dX4_append_40 hl (k := 0) rfl (by decide) (by decide) rfl (fun ls hl => ?_)
  refine lv_goto (tgt := 3) hx hb dX4_append_43 (by decide) ?_
  refine lv_iload_n hx hb dX4_append_3 rfl (lv_at hl 0 rfl) ?_
  refine lv_if_lt (tgt := 46) hx hb dX4_append_4 (by decide) (fun c_29 => ?_) (fun c_29 => absurd (by decide) c_29)
  have hP9 := hP.sub (ws' := [(ta, .inr (3, [.ref tb, .int 16])), (tb, .inl (cT, 3100, .inl f_27))]) [0, 1] rfl
  have hD9 := hD.sub (ws' := [(ta, .inr (3, [.ref tb, .int 16])), (tb, .inl (cT, 3100, .inl f_27))]) [0, 1] (by decide) rfl
  have hK9 := hK.sub (tys' := [(cT, .byte)]) [0] rfl
  exact W.vret hx hb hr (fun t ht hW => ⟨⟨(f_27), rfl, trivial, by rw [ht]; exact hP9, va_K.moved hW.alike hK9, hD9⟩, hS.F ht⟩) hS.2.2 dX4_append_46

set_option maxHeartbeats 4000000 in
set_option maxRecDepth 100000 in
theorem k_app16 (l : Launch) (dC : Nat → ClassId) (dI : Nat → Nat → Nat) (ta tb : Nat) (cT : ClassId) (tf : Nat → Int32) (n0 : Int32) (sz : Nat) : Met l yX4_append wsX4_append ({ frames := 0, cells := 0, slots := 0, locals := 0 }) (va_Pc [.ref ta, .int n0] (fun U => U.heap.size = sz ∧ va_P (dC, dI) vwCl [(ta, .inr (3, [.ref tb, .int 16])), (tb, .inl (cT, 3100, .inl tf))] U.heap ∧ va_K (dC, dI) vwCl [(cT, .byte)] U ∧ va_D (fun _ => True) [(ta, .inr (3, [.ref tb, .int 16])), (tb, .inl (cT, 3100, .inl tf))])) (va_Qv (fun (tg : (Nat → Int32)) => True) (fun (tg : (Nat → Int32)) (t : State) => va_P (dC, dI) vwCl [(ta, .inr (3, [.ref tb, .int 20])), (tb, .inl (cT, 3100, .inl tg))] t.heap ∧ va_K (dC, dI) vwCl [(cT, .byte)] t ∧ va_D (va_A [(ta, .inr (3, [.ref tb, .int 16])), (tb, .inl (cT, 3100, .inl tf))] sz) [(ta, .inr (3, [.ref tb, .int 20])), (tb, .inl (cT, 3100, .inl tg))]) (va_A [(ta, .inr (3, [.ref tb, .int 16])), (tb, .inl (cT, 3100, .inl tf))] sz)) 0 0 (va_A [(ta, .inr (3, [.ref tb, .int 16])), (tb, .inl (cT, 3100, .inl tf))] sz) := by
  refine Met.ofW (cc := cX4_append) (maxL := 3) (ret := none) (by decide) rfl ?_
  intro p e s m args below meth c s₁ B hml hv
  obtain ⟨rfl, hsz, hP, hK, hD0⟩ := hv
  have hx := B.exec
  have hb := B.bytes
  have hr := B.returns
  have hts := atoms_spec (ws := wsX4_append) B.pre
  have hown : s.vm.findClass RX4 = some m.cls := findClass_of_methodNamed B.named
  have hlocks := B.notSynchronized
  subst hsz
  have hD := hD0.self (sz := s.heap.size)
  generalize hAe : va_A [(ta, .inr (3, [.ref tb, .int 16])), (tb, .inl (cT, 3100, .inl tf))] s.heap.size = A at hD ⊢
  have hA : ∀ q : Nat, s.heap.size ≤ q → A q := fun q h => by rw [← hAe]; exact Or.inr h
  have hS : va_S A s.heap s.heap [] := va_S.rf
  have hP : va_P (dC, dI) vwCl [(ta, .inr (3, [.ref tb, .int 16])), (tb, .inl (cT, 3100, .inl tf))] s.heap := hP
  have hl := lv_entry ([.ref ta, .int n0]) (n := 3) (Nat.le_of_ble_eq_true rfl)
  rw [lg_entry_eq]
  generalize (lg_sl ([.ref ta, .int n0]) ++ List.replicate (3 - (lg_sl ([.ref ta, .int n0])).length) Slot.unset).toArray = ls at hl ⊢
  have hl : lv_has ls 3 [(0, .ref ta), (1, .int n0)] := hl
  have iX4 : ∀ w ∈ wsX40, w ∈ wsX4_append := by decide +kernel
  refine lv_bipush (v := 24) hx hb dX4_append_0 (by decide) ?_
  refine lv_istore_n (lv' := [(2, .int 24), (0, .ref ta), (1, .int n0)]) hx hb dX4_append_2 rfl hl (by decide) rfl (fun ls hl => ?_)
  refine lv_iload_n hx hb dX4_append_3 rfl (lv_at hl 0 rfl) ?_
  refine lv_if_lt (tgt := 46) hx hb dX4_append_4 (by decide) (fun c_1 => absurd c_1 (by decide)) (fun c_1 => ?_)
  refine lv_aload_n hx hb dX4_append_7 rfl (lv_at hl 1 rfl) ?_
  refine va_get (D := (dC, dI)) (ci := 3) (v := .int 16) (C := RX4) (T := TX4) (N := 2) hx hb hts iX4 hown hK hP 0 rfl rfl 1 (by decide) (hts (.fieldLink RX4 15 "BatchTransfer$Tape" "length" "I") (by decide +kernel)) (fun _ h9 => h9) rfl dX4_append_8 ?_
  refine lv_sipush (v := 3100) hx hb dX4_append_11 (by decide) ?_
  refine lv_icmp_ge (tgt := 46) hx hb dX4_append_14 (by decide) (fun c_2 => absurd c_2 (by decide)) (fun c_2 => ?_)
  refine lv_aload_n hx hb dX4_append_17 rfl (lv_at hl 1 rfl) ?_
  refine va_get (D := (dC, dI)) (ci := 3) (v := .ref tb) (C := RX4) (T := TX4) (N := 2) hx hb hts iX4 hown hK hP 0 rfl rfl 0 (by decide) (hts (.fieldLink RX4 9 "BatchTransfer$Tape" "bytes" "[B") (by decide +kernel)) (fun _ h9 => h9) rfl dX4_append_18 ?_
  refine lv_aload_n hx hb dX4_append_21 rfl (lv_at hl 1 rfl) ?_
  refine va_get (D := (dC, dI)) (ci := 3) (v := .int 16) (C := RX4) (T := TX4) (N := 2) hx hb hts iX4 hown hK hP 0 rfl rfl 1 (by decide) (hts (.fieldLink RX4 15 "BatchTransfer$Tape" "length" "I") (by decide +kernel)) (fun _ h9 => h9) rfl dX4_append_22 ?_
  refine lv_iload_n hx hb dX4_append_25 rfl (lv_at hl 2 rfl) ?_
  refine lv_iload_n hx hb dX4_append_26 rfl (lv_at hl 0 rfl) ?_
  refine lv_ishr hx hb dX4_append_27 ?_
  refine lv_topi (fun x_3 ex_3 => ?_)
  refine lv_i2b hx hb dX4_append_28 rfl ?_
  refine lv_topi (fun x_4 ex_4 => ?_)
  have h_5 : vp_in (16) 3100 := by unfold vp_in; decide +kernel
  refine va_bast hx hb hK hP hD hS 1 0 rfl rfl h_5 dX4_append_29 (fun H locs hP hD hS => ?_)
  obtain ⟨f_6, ef_6⟩ : ∃ g : Nat → Int32, g = upd tf (16 : Int32).toNatClampNeg (vp_nar .byte x_4) := ⟨_, rfl⟩
  have hP : va_P (dC, dI) vwCl [(ta, .inr (3, [.ref tb, .int 16])), (tb, .inl (cT, 3100, .inl f_6))] H := by rw [ef_6]; exact hP
  have hD : va_D A [(ta, .inr (3, [.ref tb, .int 16])), (tb, .inl (cT, 3100, .inl f_6))] := by rw [ef_6]; exact hD
  refine lv_aload_n hx hb dX4_append_30 rfl (lv_at hl 1 rfl) ?_
  refine lv_dup hx hb dX4_append_31 rfl ?_
  refine va_get (D := (dC, dI)) (ci := 3) (v := .int 16) (C := RX4) (T := TX4) (N := 2) hx hb hts iX4 hown hK hP 0 rfl rfl 1 (by decide) (hts (.fieldLink RX4 15 "BatchTransfer$Tape" "length" "I") (by decide +kernel)) (fun _ h9 => h9) rfl dX4_append_32 ?_
  refine lv_iconst (v := 1) hx hb dX4_append_35 (by decide) ?_
  refine lv_iadd hx hb dX4_append_36 ?_
  refine lv_topi (fun x_7 ex_7 => ?_)
  obtain rfl : x_7 = 17 := ex_7.trans (by decide)
  refine va_put (D := (dC, dI)) (ci := 3) (v := .int 17) (ty := .int) (C := RX4) (T := TX4) (N := 2) hx hb hts iX4 tyX4 tyX4_ok nmX4 hown hK hP hD hS 0 rfl rfl 1 (by decide) (hts (.fieldLink RX4 15 "BatchTransfer$Tape" "length" "I") (by decide +kernel)) (fun _ h9 => h9) rfl (by decide +kernel) rfl rfl (Nat.le_of_ble_eq_true rfl) dX4_append_37 (fun H locs hP hD hS => ?_)
  have hP : va_P (dC, dI) vwCl [(ta, .inr (3, [.ref tb, .int 17])), (tb, .inl (cT, 3100, .inl f_6))] H := hP
  have hD : va_D A [(ta, .inr (3, [.ref tb, .int 17])), (tb, .inl (cT, 3100, .inl f_6))] := hD
  refine lv_iinc (v := 16) (lv' := [(2, .int 16), (0, .ref ta), (1, .int n0)]) hx hb dX4_append_40 hl (k := 0) rfl (by decide) (by decide) rfl (fun ls hl => ?_)
  refine lv_goto (tgt := 3) hx hb dX4_append_43 (by decide) ?_
  refine lv_iload_n hx hb dX4_append_3 rfl (lv_at hl 0 rfl) ?_
  refine lv_if_lt (tgt := 46) hx hb dX4_append_4 (by decide) (fun c_8 => absurd c_8 (by decide)) (fun c_8 => ?_)
  refine lv_aload_n hx hb dX4_append_7 rfl (lv_at hl 1 rfl) ?_
  refine va_get (D := (dC, dI)) (ci := 3) (v := .int 17) (C := RX4) (T := TX4) (N := 2) hx hb hts iX4 hown hK hP 0 rfl rfl 1 (by decide) (hts (.fieldLink RX4 15 "BatchTransfer$Tape" "length" "I") (by decide +kernel)) (fun _ h9 => h9) rfl dX4_append_8 ?_
  refine lv_sipush (v := 3100) hx hb dX4_append_11 (by decide) ?_
  refine lv_icmp_ge (tgt := 46) hx hb dX4_append_14 (by decide) (fun c_9 => absurd c_9 (by decide)) (fun c_9 => ?_)
  refine lv_aload_n hx hb dX4_append_17 rfl (lv_at hl 1 rfl) ?_
  refine va_get (D := (dC, dI)) (ci := 3) (v := .ref tb) (C := RX4) (T := TX4) (N := 2) hx hb hts iX4 hown hK hP 0 rfl rfl 0 (by decide) (hts (.fieldLink RX4 9 "BatchTransfer$Tape" "bytes" "[B") (by decide +kernel)) (fun _ h9 => h9) rfl dX4_append_18 ?_
  refine lv_aload_n hx hb dX4_append_21 rfl (lv_at hl 1 rfl) ?_
  refine va_get (D := (dC, dI)) (ci := 3) (v := .int 17) (C := RX4) (T := TX4) (N := 2) hx hb hts iX4 hown hK hP 0 rfl rfl 1 (by decide) (hts (.fieldLink RX4 15 "BatchTransfer$Tape" "length" "I") (by decide +kernel)) (fun _ h9 => h9) rfl dX4_append_22 ?_
  refine lv_iload_n hx hb dX4_append_25 rfl (lv_at hl 2 rfl) ?_
  refine lv_iload_n hx hb dX4_append_26 rfl (lv_at hl 0 rfl) ?_
  refine lv_ishr hx hb dX4_append_27 ?_
  refine lv_topi (fun x_10 ex_10 => ?_)
  refine lv_i2b hx hb dX4_append_28 rfl ?_
  refine lv_topi (fun x_11 ex_11 => ?_)
  have h_12 : vp_in (17) 3100 := by unfold vp_in; decide +kernel
  refine va_bast hx hb hK hP hD hS 1 0 rfl rfl h_12 dX4_append_29 (fun H locs hP hD hS => ?_)
  obtain ⟨f_13, ef_13⟩ : ∃ g : Nat → Int32, g = upd f_6 (17 : Int32).toNatClampNeg (vp_nar .byte x_11) := ⟨_, rfl⟩
  have hP : va_P (dC, dI) vwCl [(ta, .inr (3, [.ref tb, .int 17])), (tb, .inl (cT, 3100, .inl f_13))] H := by rw [ef_13]; exact hP
  have hD : va_D A [(ta, .inr (3, [.ref tb, .int 17])), (tb, .inl (cT, 3100, .inl f_13))] := by rw [ef_13]; exact hD
  refine lv_aload_n hx hb dX4_append_30 rfl (lv_at hl 1 rfl) ?_
  refine lv_dup hx hb dX4_append_31 rfl ?_
  refine va_get (D := (dC, dI)) (ci := 3) (v := .int 17) (C := RX4) (T := TX4) (N := 2) hx hb hts iX4 hown hK hP 0 rfl rfl 1 (by decide) (hts (.fieldLink RX4 15 "BatchTransfer$Tape" "length" "I") (by decide +kernel)) (fun _ h9 => h9) rfl dX4_append_32 ?_
  refine lv_iconst (v := 1) hx hb dX4_append_35 (by decide) ?_
  refine lv_iadd hx hb dX4_append_36 ?_
  refine lv_topi (fun x_14 ex_14 => ?_)
  obtain rfl : x_14 = 18 := ex_14.trans (by decide)
  refine va_put (D := (dC, dI)) (ci := 3) (v := .int 18) (ty := .int) (C := RX4) (T := TX4) (N := 2) hx hb hts iX4 tyX4 tyX4_ok nmX4 hown hK hP hD hS 0 rfl rfl 1 (by decide) (hts (.fieldLink RX4 15 "BatchTransfer$Tape" "length" "I") (by decide +kernel)) (fun _ h9 => h9) rfl (by decide +kernel) rfl rfl (Nat.le_of_ble_eq_true rfl) dX4_append_37 (fun H locs hP hD hS => ?_)
  have hP : va_P (dC, dI) vwCl [(ta, .inr (3, [.ref tb, .int 18])), (tb, .inl (cT, 3100, .inl f_13))] H := hP
  have hD : va_D A [(ta, .inr (3, [.ref tb, .int 18])), (tb, .inl (cT, 3100, .inl f_13))] := hD
  refine lv_iinc (v := 8) (lv' := [(2, .int 8), (0, .ref ta), (1, .int n0)]) hx hb dX4_append_40 hl (k := 0) rfl (by decide) (by decide) rfl (fun ls hl => ?_)
  refine lv_goto (tgt := 3) hx hb dX4_append_43 (by decide) ?_
  refine lv_iload_n hx hb dX4_append_3 rfl (lv_at hl 0 rfl) ?_
  refine lv_if_lt (tgt := 46) hx hb dX4_append_4 (by decide) (fun c_15 => absurd c_15 (by decide)) (fun c_15 => ?_)
  refine lv_aload_n hx hb dX4_append_7 rfl (lv_at hl 1 rfl) ?_
  refine va_get (D := (dC, dI)) (ci := 3) (v := .int 18) (C := RX4) (T := TX4) (N := 2) hx hb hts iX4 hown hK hP 0 rfl rfl 1 (by decide) (hts (.fieldLink RX4 15 "BatchTransfer$Tape" "length" "I") (by decide +kernel)) (fun _ h9 => h9) rfl dX4_append_8 ?_
  refine lv_sipush (v := 3100) hx hb dX4_append_11 (by decide) ?_
  refine lv_icmp_ge (tgt := 46) hx hb dX4_append_14 (by decide) (fun c_16 => absurd c_16 (by decide)) (fun c_16 => ?_)
  refine lv_aload_n hx hb dX4_append_17 rfl (lv_at hl 1 rfl) ?_
  refine va_get (D := (dC, dI)) (ci := 3) (v := .ref tb) (C := RX4) (T := TX4) (N := 2) hx hb hts iX4 hown hK hP 0 rfl rfl 0 (by decide) (hts (.fieldLink RX4 9 "BatchTransfer$Tape" "bytes" "[B") (by decide +kernel)) (fun _ h9 => h9) rfl dX4_append_18 ?_
  refine lv_aload_n hx hb dX4_append_21 rfl (lv_at hl 1 rfl) ?_
  refine va_get (D := (dC, dI)) (ci := 3) (v := .int 18) (C := RX4) (T := TX4) (N := 2) hx hb hts iX4 hown hK hP 0 rfl rfl 1 (by decide) (hts (.fieldLink RX4 15 "BatchTransfer$Tape" "length" "I") (by decide +kernel)) (fun _ h9 => h9) rfl dX4_append_22 ?_
  refine lv_iload_n hx hb dX4_append_25 rfl (lv_at hl 2 rfl) ?_
  refine lv_iload_n hx hb dX4_append_26 rfl (lv_at hl 0 rfl) ?_
  refine lv_ishr hx hb dX4_append_27 ?_
  refine lv_topi (fun x_17 ex_17 => ?_)
  refine lv_i2b hx hb dX4_append_28 rfl ?_
  refine lv_topi (fun x_18 ex_18 => ?_)
  have h_19 : vp_in (18) 3100 := by unfold vp_in; decide +kernel
  refine va_bast hx hb hK hP hD hS 1 0 rfl rfl h_19 dX4_append_29 (fun H locs hP hD hS => ?_)
  obtain ⟨f_20, ef_20⟩ : ∃ g : Nat → Int32, g = upd f_13 (18 : Int32).toNatClampNeg (vp_nar .byte x_18) := ⟨_, rfl⟩
  have hP : va_P (dC, dI) vwCl [(ta, .inr (3, [.ref tb, .int 18])), (tb, .inl (cT, 3100, .inl f_20))] H := by rw [ef_20]; exact hP
  have hD : va_D A [(ta, .inr (3, [.ref tb, .int 18])), (tb, .inl (cT, 3100, .inl f_20))] := by rw [ef_20]; exact hD
  refine lv_aload_n hx hb dX4_append_30 rfl (lv_at hl 1 rfl) ?_
  refine lv_dup hx hb dX4_append_31 rfl ?_
  refine va_get (D := (dC, dI)) (ci := 3) (v := .int 18) (C := RX4) (T := TX4) (N := 2) hx hb hts iX4 hown hK hP 0 rfl rfl 1 (by decide) (hts (.fieldLink RX4 15 "BatchTransfer$Tape" "length" "I") (by decide +kernel)) (fun _ h9 => h9) rfl dX4_append_32 ?_
  refine lv_iconst (v := 1) hx hb dX4_append_35 (by decide) ?_
  refine lv_iadd hx hb dX4_append_36 ?_
  refine lv_topi (fun x_21 ex_21 => ?_)
  obtain rfl : x_21 = 19 := ex_21.trans (by decide)
  refine va_put (D := (dC, dI)) (ci := 3) (v := .int 19) (ty := .int) (C := RX4) (T := TX4) (N := 2) hx hb hts iX4 tyX4 tyX4_ok nmX4 hown hK hP hD hS 0 rfl rfl 1 (by decide) (hts (.fieldLink RX4 15 "BatchTransfer$Tape" "length" "I") (by decide +kernel)) (fun _ h9 => h9) rfl (by decide +kernel) rfl rfl (Nat.le_of_ble_eq_true rfl) dX4_append_37 (fun H locs hP hD hS => ?_)
  have hP : va_P (dC, dI) vwCl [(ta, .inr (3, [.ref tb, .int 19])), (tb, .inl (cT, 3100, .inl f_20))] H := hP
  have hD : va_D A [(ta, .inr (3, [.ref tb, .int 19])), (tb, .inl (cT, 3100, .inl f_20))] := hD
  refine lv_iinc (v := 0) (lv' := [(2, .int 0), (0, .ref ta), (1, .int n0)]) hx hb dX4_append_40 hl (k := 0) rfl (by decide) (by decide) rfl (fun ls hl => ?_)
  refine lv_goto (tgt := 3) hx hb dX4_append_43 (by decide) ?_
  refine lv_iload_n hx hb dX4_append_3 rfl (lv_at hl 0 rfl) ?_
  refine lv_if_lt (tgt := 46) hx hb dX4_append_4 (by decide) (fun c_22 => absurd c_22 (by decide)) (fun c_22 => ?_)
  refine lv_aload_n hx hb dX4_append_7 rfl (lv_at hl 1 rfl) ?_
  refine va_get (D := (dC, dI)) (ci := 3) (v := .int 19) (C := RX4) (T := TX4) (N := 2) hx hb hts iX4 hown hK hP 0 rfl rfl 1 (by decide) (hts (.fieldLink RX4 15 "BatchTransfer$Tape" "length" "I") (by decide +kernel)) (fun _ h9 => h9) rfl dX4_append_8 ?_
  refine lv_sipush (v := 3100) hx hb dX4_append_11 (by decide) ?_
  refine lv_icmp_ge (tgt := 46) hx hb dX4_append_14 (by decide) (fun c_23 => absurd c_23 (by decide)) (fun c_23 => ?_)
  refine lv_aload_n hx hb dX4_append_17 rfl (lv_at hl 1 rfl) ?_
  refine va_get (D := (dC, dI)) (ci := 3) (v := .ref tb) (C := RX4) (T := TX4) (N := 2) hx hb hts iX4 hown hK hP 0 rfl rfl 0 (by decide) (hts (.fieldLink RX4 9 "BatchTransfer$Tape" "bytes" "[B") (by decide +kernel)) (fun _ h9 => h9) rfl dX4_append_18 ?_
  refine lv_aload_n hx hb dX4_append_21 rfl (lv_at hl 1 rfl) ?_
  refine va_get (D := (dC, dI)) (ci := 3) (v := .int 19) (C := RX4) (T := TX4) (N := 2) hx hb hts iX4 hown hK hP 0 rfl rfl 1 (by decide) (hts (.fieldLink RX4 15 "BatchTransfer$Tape" "length" "I") (by decide +kernel)) (fun _ h9 => h9) rfl dX4_append_22 ?_
  refine lv_iload_n hx hb dX4_append_25 rfl (lv_at hl 2 rfl) ?_
  refine lv_iload_n hx hb dX4_append_26 rfl (lv_at hl 0 rfl) ?_
  refine lv_ishr hx hb dX4_append_27 ?_
  refine lv_topi (fun x_24 ex_24 => ?_)
  refine lv_i2b hx hb dX4_append_28 rfl ?_
  refine lv_topi (fun x_25 ex_25 => ?_)
  have h_26 : vp_in (19) 3100 := by unfold vp_in; decide +kernel
  refine va_bast hx hb hK hP hD hS 1 0 rfl rfl h_26 dX4_append_29 (fun H locs hP hD hS => ?_)
  obtain ⟨f_27, ef_27⟩ : ∃ g : Nat → Int32, g = upd f_20 (19 : Int32).toNatClampNeg (vp_nar .byte x_25) := ⟨_, rfl⟩
  have hP : va_P (dC, dI) vwCl [(ta, .inr (3, [.ref tb, .int 19])), (tb, .inl (cT, 3100, .inl f_27))] H := by rw [ef_27]; exact hP
  have hD : va_D A [(ta, .inr (3, [.ref tb, .int 19])), (tb, .inl (cT, 3100, .inl f_27))] := by rw [ef_27]; exact hD
  refine lv_aload_n hx hb dX4_append_30 rfl (lv_at hl 1 rfl) ?_
  refine lv_dup hx hb dX4_append_31 rfl ?_
  refine va_get (D := (dC, dI)) (ci := 3) (v := .int 19) (C := RX4) (T := TX4) (N := 2) hx hb hts iX4 hown hK hP 0 rfl rfl 1 (by decide) (hts (.fieldLink RX4 15 "BatchTransfer$Tape" "length" "I") (by decide +kernel)) (fun _ h9 => h9) rfl dX4_append_32 ?_
  refine lv_iconst (v := 1) hx hb dX4_append_35 (by decide) ?_
  refine lv_iadd hx hb dX4_append_36 ?_
  refine lv_topi (fun x_28 ex_28 => ?_)
  obtain rfl : x_28 = 20 := ex_28.trans (by decide)
  refine va_put (D := (dC, dI)) (ci := 3) (v := .int 20) (ty := .int) (C := RX4) (T := TX4) (N := 2) hx hb hts iX4 tyX4 tyX4_ok nmX4 hown hK hP hD hS 0 rfl rfl 1 (by decide) (hts (.fieldLink RX4 15 "BatchTransfer$Tape" "length" "I") (by decide +kernel)) (fun _ h9 => h9) rfl (by decide +kernel) rfl rfl (Nat.le_of_ble_eq_true rfl) dX4_append_37 (fun H locs hP hD hS => ?_)
  have hP : va_P (dC, dI) vwCl [(ta, .inr (3, [.ref tb, .int 20])), (tb, .inl (cT, 3100, .inl f_27))] H := hP
  have hD : va_D A [(ta, .inr (3, [.ref tb, .int 20])), (tb, .inl (cT, 3100, .inl f_27))] := hD
  refine lv_iinc (v := (-8)) (lv' := [(2, .int (-8)), (0, .ref ta), (1, .int n0)]) hx hb dX4_append_40 hl (k := 0) rfl (by decide) (by decide) rfl (fun ls hl => ?_)
  refine lv_goto (tgt := 3) hx hb dX4_append_43 (by decide) ?_
  refine lv_iload_n hx hb dX4_append_3 rfl (lv_at hl 0 rfl) ?_
  refine lv_if_lt (tgt := 46) hx hb dX4_append_4 (by decide) (fun c_29 => ?_) (fun c_29 => absurd (by decide) c_29)
  have hP9 := hP.sub (ws' := [(ta, .inr (3, [.ref tb, .int 20])), (tb, .inl (cT, 3100, .inl f_27))]) [0, 1] rfl
  have hD9 := hD.sub (ws' := [(ta, .inr (3, [.ref tb, .int 20])), (tb, .inl (cT, 3100, .inl f_27))]) [0, 1] (by decide) rfl
  have hK9 := hK.sub (tys' := [(cT, .byte)]) [0] rfl
  exact W.vret hx hb hr (fun t ht hW => ⟨⟨(f_27), rfl, trivial, by rw [ht]; exact hP9, va_K.moved hW.alike hK9, hD9⟩, hS.F ht⟩) hS.2.2 dX4_append_46

set_option maxHeartbeats 4000000 in
set_option maxRecDepth 100000 in
theorem k_feed (l : Launch) (dC : Nat → ClassId) (dI : Nat → Nat → Nat) (bt ta wi se re : Nat) (eb sn sp sa sm : Int32) (tb : Nat) (cT : ClassId) (tf : Nat → Int32) (n0 n1 n2 n3 n4 : Int32) (sz : Nat) : Met l yX7_feed wsX7_feed ({ frames := 1, cells := 0, slots := 0, locals := 22 }) (va_Pc [.ref bt, .int n0, .int n1, .int n2, .int n3, .int n4] (fun U => U.heap.size = sz ∧ va_P (dC, dI) vwCl [(bt, .inr (5, [.ref ta, .ref wi, .ref se, .ref re, .int eb, .int sn, .int sp, .int sa, .int sm])), (ta, .inr (3, [.ref tb, .int 0])), (tb, .inl (cT, 3100, .inl tf))] U.heap ∧ va_K (dC, dI) vwCl [(cT, .byte)] U ∧ va_D (fun _ => True) [(bt, .inr (5, [.ref ta, .ref wi, .ref se, .ref re, .int eb, .int sn, .int sp, .int sa, .int sm])), (ta, .inr (3, [.ref tb, .int 0])), (tb, .inl (cT, 3100, .inl tf))])) (va_Qi (fun (r : Int32) (_ : Unit) => r = 1) (fun (_ : Unit) (_ : State) => True) (va_A [(bt, .inr (5, [.ref ta, .ref wi, .ref se, .ref re, .int eb, .int sn, .int sp, .int sa, .int sm])), (ta, .inr (3, [.ref tb, .int 0])), (tb, .inl (cT, 3100, .inl tf))] sz)) 0 0 (va_A [(bt, .inr (5, [.ref ta, .ref wi, .ref se, .ref re, .int eb, .int sn, .int sp, .int sa, .int sm])), (ta, .inr (3, [.ref tb, .int 0])), (tb, .inl (cT, 3100, .inl tf))] sz) := by
  refine Met.ofW (cc := cX7_feed) (maxL := 6) (ret := (some .boolean)) (by decide) rfl ?_
  intro p e s m args below meth c s₁ B hml hv
  obtain ⟨rfl, hsz, hP, hK, hD0⟩ := hv
  have hx := B.exec
  have hb := B.bytes
  have hr := B.returns
  have hts := atoms_spec (ws := wsX7_feed) B.pre
  have hown : s.vm.findClass RX7 = some m.cls := findClass_of_methodNamed B.named
  have hlocks := B.notSynchronized
  subst hsz
  have hD := hD0.self (sz := s.heap.size)
  generalize hAe : va_A [(bt, .inr (5, [.ref ta, .ref wi, .ref se, .ref re, .int eb, .int sn, .int sp, .int sa, .int sm])), (ta, .inr (3, [.ref tb, .int 0])), (tb, .inl (cT, 3100, .inl tf))] s.heap.size = A at hD ⊢
  have hA : ∀ q : Nat, s.heap.size ≤ q → A q := fun q h => by rw [← hAe]; exact Or.inr h
  have hS : va_S A s.heap s.heap [] := va_S.rf
  have hP : va_P (dC, dI) vwCl [(bt, .inr (5, [.ref ta, .ref wi, .ref se, .ref re, .int eb, .int sn, .int sp, .int sa, .int sm])), (ta, .inr (3, [.ref tb, .int 0])), (tb, .inl (cT, 3100, .inl tf))] s.heap := hP
  have hl := lv_entry ([.ref bt, .int n0, .int n1, .int n2, .int n3, .int n4]) (n := 6) (Nat.le_of_ble_eq_true rfl)
  rw [lg_entry_eq]
  generalize (lg_sl ([.ref bt, .int n0, .int n1, .int n2, .int n3, .int n4]) ++ List.replicate (6 - (lg_sl ([.ref bt, .int n0, .int n1, .int n2, .int n3, .int n4])).length) Slot.unset).toArray = ls at hl ⊢
  have hl : lv_has ls 6 [(0, .ref bt), (1, .int n0), (2, .int n1), (3, .int n2), (4, .int n3), (5, .int n4)] := hl
  have iX4 : ∀ w ∈ wsX40, w ∈ wsX7_feed := by decide +kernel
  have iX7 : ∀ w ∈ wsX70, w ∈ wsX7_feed := by decide +kernel
  refine lv_aload_n hx hb dX7_feed_0 rfl (lv_at hl 0 rfl) ?_
  refine va_get (D := (dC, dI)) (ci := 5) (v := .ref ta) (C := RX7) (T := TX7) (N := 9) hx hb hts iX7 hown hK hP 0 rfl rfl 0 (by decide) (hts (.fieldLink RX7 12 "BatchTransfer" "tape" "LBatchTransfer$Tape;") (by decide +kernel)) (fun _ h9 => h9) rfl dX7_feed_1 ?_
  refine va_get (D := (dC, dI)) (ci := 3) (v := .int 0) (C := RX4) (T := TX4) (N := 2) hx hb hts iX4 hown hK hP 1 rfl rfl 1 (by decide) (hts (.fieldLink RX7 37 "BatchTransfer$Tape" "length" "I") (by decide +kernel)) (fun _ h9 => h9) rfl dX7_feed_4 ?_
  refine lv_bipush (v := 20) hx hb dX7_feed_7 (by decide) ?_
  refine lv_iadd hx hb dX7_feed_9 ?_
  refine lv_topi (fun x_1 ex_1 => ?_)
  obtain rfl : x_1 = 20 := ex_1.trans (by decide)
  refine lv_sipush (v := 3100) hx hb dX7_feed_10 (by decide) ?_
  refine lv_icmp_le (tgt := 18) hx hb dX7_feed_13 (by decide) (fun c_2 => ?_) (fun c_2 => absurd (by decide) c_2)
  refine lv_aload_n hx hb dX7_feed_18 rfl (lv_at hl 0 rfl) ?_
  refine va_get (D := (dC, dI)) (ci := 5) (v := .ref ta) (C := RX7) (T := TX7) (N := 9) hx hb hts iX7 hown hK hP 0 rfl rfl 0 (by decide) (hts (.fieldLink RX7 12 "BatchTransfer" "tape" "LBatchTransfer$Tape;") (by decide +kernel)) (fun _ h9 => h9) rfl dX7_feed_19 ?_
  refine lv_iload_n hx hb dX7_feed_22 rfl (lv_at hl 1 rfl) ?_
  have hPc := hP.sub (ws' := [(ta, .inr (3, [.ref tb, .int 0])), (tb, .inl (cT, 3100, .inl tf))]) [1, 2] rfl
  have hDc := hD.sub (ws' := [(ta, .inr (3, [.ref tb, .int 0])), (tb, .inl (cT, 3100, .inl tf))]) [1, 2] (by decide) rfl
  have hKc := hK.sub (tys' := [(cT, .byte)]) [0] rfl
  have hFc := va_free (wc := [(ta, .inr (3, [.ref tb, .int 0])), (tb, .inl (cT, 3100, .inl tf))]) hD hS hA [1, 2] rfl
  refine va_callv (va_runV (As := [.int n0]) (rest := []) ⟨hx, hb, hml, hown, hts⟩ (k_app0 l dC dI ta tb cT tf n0 s.heap.size) (cwV 1 hts gX7_feed_X4_append rfl rfl rfl (by decide +kernel) ⟨Nat.le_of_ble_eq_true rfl, Nat.le_of_ble_eq_true rfl⟩) ⟨fun a U g mk q => by obtain ⟨q0, q1, qP, qK, qD⟩ := q; exact ⟨q0, q1, qP, va_K.moved (u := U) (U := U.calling g mk a) (Vm.Alike.refl U.vm) qK, qD⟩, va_recv hKc hPc (ci := 3) (q0 := 0) rfl rfl, fun U hU hW => ⟨rfl, by rw [hU], by rw [hU]; exact hPc, va_K.moved hW.alike hKc, hDc.weaken (fun _ _ _ _ => trivial)⟩⟩ rfl rfl hl.1 rfl (lv_room (Nat.le_of_ble_eq_true rfl)) dX7_feed_23 ⟨show 0 + 0 ≤ 0 by omega, show 0 + 0 ≤ 0 by omega⟩) hS (fun q _ h => hFc q h) hFc (fun u t H1 locs ht hvm hw hB hz1 hk1 hS => ?_)
  obtain ⟨tg_4, rfl⟩ : ∃ z, z = u := ⟨_, rfl⟩
  obtain ⟨hP1, hK1, hD1⟩ := hB
  rw [ht] at hP1
  have hK1 := va_K.moved hvm.symm hK1
  try dsimp only at hw
  obtain ⟨hP, hD⟩ := va_join (wr := [(bt, .inr (5, [.ref ta, .ref wi, .ref se, .ref re, .int eb, .int sn, .int sp, .int sa, .int sm]))]) (w1 := [(ta, .inr (3, [.ref tb, .int 4])), (tb, .inl (cT, 3100, .inl tg_4))]) hP hD [1, 2] [0] rfl rfl (by decide) (by decide) hk1 hFc hP1 hD1
  have hK := (hK.sub (tys' := []) [] rfl).app hK1
  generalize H1 = H at hP hS ⊢
  have hK : va_K (dC, dI) vwCl [(cT, .byte)] s := hK
  have hP : va_P (dC, dI) vwCl [(bt, .inr (5, [.ref ta, .ref wi, .ref se, .ref re, .int eb, .int sn, .int sp, .int sa, .int sm])), (ta, .inr (3, [.ref tb, .int 4])), (tb, .inl (cT, 3100, .inl tg_4))] H := hP
  have hD : va_D A [(bt, .inr (5, [.ref ta, .ref wi, .ref se, .ref re, .int eb, .int sn, .int sp, .int sa, .int sm])), (ta, .inr (3, [.ref tb, .int 4])), (tb, .inl (cT, 3100, .inl tg_4))] := hD
  refine lv_aload_n hx hb dX7_feed_26 rfl (lv_at hl 0 rfl) ?_
  refine va_get (D := (dC, dI)) (ci := 5) (v := .ref ta) (C := RX7) (T := TX7) (N := 9) hx hb hts iX7 hown hK hP 0 rfl rfl 0 (by decide) (hts (.fieldLink RX7 12 "BatchTransfer" "tape" "LBatchTransfer$Tape;") (by decide +kernel)) (fun _ h9 => h9) rfl dX7_feed_27 ?_
  refine lv_iload_n hx hb dX7_feed_30 rfl (lv_at hl 2 rfl) ?_
  have hPc := hP.sub (ws' := [(ta, .inr (3, [.ref tb, .int 4])), (tb, .inl (cT, 3100, .inl tg_4))]) [1, 2] rfl
  have hDc := hD.sub (ws' := [(ta, .inr (3, [.ref tb, .int 4])), (tb, .inl (cT, 3100, .inl tg_4))]) [1, 2] (by decide) rfl
  have hKc := hK.sub (tys' := [(cT, .byte)]) [0] rfl
  have hFc := va_free (wc := [(ta, .inr (3, [.ref tb, .int 4])), (tb, .inl (cT, 3100, .inl tg_4))]) hD hS hA [1, 2] rfl
  refine va_callv (va_runV (As := [.int n1]) (rest := []) ⟨hx, hb, hml, hown, hts⟩ (k_app4 l dC dI ta tb cT tg_4 n1 H.size) (cwV 1 hts gX7_feed_X4_append rfl rfl rfl (by decide +kernel) ⟨Nat.le_of_ble_eq_true rfl, Nat.le_of_ble_eq_true rfl⟩) ⟨fun a U g mk q => by obtain ⟨q0, q1, qP, qK, qD⟩ := q; exact ⟨q0, q1, qP, va_K.moved (u := U) (U := U.calling g mk a) (Vm.Alike.refl U.vm) qK, qD⟩, va_recv hKc hPc (ci := 3) (q0 := 0) rfl rfl, fun U hU hW => ⟨rfl, by rw [hU], by rw [hU]; exact hPc, va_K.moved hW.alike hKc, hDc.weaken (fun _ _ _ _ => trivial)⟩⟩ rfl rfl hl.1 rfl (lv_room (Nat.le_of_ble_eq_true rfl)) dX7_feed_31 ⟨show 0 + 0 ≤ 0 by omega, show 0 + 0 ≤ 0 by omega⟩) hS (fun q _ h => hFc q h) hFc (fun u t H1 locs ht hvm hw hB hz1 hk1 hS => ?_)
  obtain ⟨tg_6, rfl⟩ : ∃ z, z = u := ⟨_, rfl⟩
  obtain ⟨hP1, hK1, hD1⟩ := hB
  rw [ht] at hP1
  have hK1 := va_K.moved hvm.symm hK1
  try dsimp only at hw
  obtain ⟨hP, hD⟩ := va_join (wr := [(bt, .inr (5, [.ref ta, .ref wi, .ref se, .ref re, .int eb, .int sn, .int sp, .int sa, .int sm]))]) (w1 := [(ta, .inr (3, [.ref tb, .int 8])), (tb, .inl (cT, 3100, .inl tg_6))]) hP hD [1, 2] [0] rfl rfl (by decide) (by decide) hk1 hFc hP1 hD1
  have hK := (hK.sub (tys' := []) [] rfl).app hK1
  generalize H1 = H at hP hS ⊢
  have hK : va_K (dC, dI) vwCl [(cT, .byte)] s := hK
  have hP : va_P (dC, dI) vwCl [(bt, .inr (5, [.ref ta, .ref wi, .ref se, .ref re, .int eb, .int sn, .int sp, .int sa, .int sm])), (ta, .inr (3, [.ref tb, .int 8])), (tb, .inl (cT, 3100, .inl tg_6))] H := hP
  have hD : va_D A [(bt, .inr (5, [.ref ta, .ref wi, .ref se, .ref re, .int eb, .int sn, .int sp, .int sa, .int sm])), (ta, .inr (3, [.ref tb, .int 8])), (tb, .inl (cT, 3100, .inl tg_6))] := hD
  refine lv_aload_n hx hb dX7_feed_34 rfl (lv_at hl 0 rfl) ?_
  refine va_get (D := (dC, dI)) (ci := 5) (v := .ref ta) (C := RX7) (T := TX7) (N := 9) hx hb hts iX7 hown hK hP 0 rfl rfl 0 (by decide) (hts (.fieldLink RX7 12 "BatchTransfer" "tape" "LBatchTransfer$Tape;") (by decide +kernel)) (fun _ h9 => h9) rfl dX7_feed_35 ?_
  refine lv_iload_n hx hb dX7_feed_38 rfl (lv_at hl 3 rfl) ?_
  have hPc := hP.sub (ws' := [(ta, .inr (3, [.ref tb, .int 8])), (tb, .inl (cT, 3100, .inl tg_6))]) [1, 2] rfl
  have hDc := hD.sub (ws' := [(ta, .inr (3, [.ref tb, .int 8])), (tb, .inl (cT, 3100, .inl tg_6))]) [1, 2] (by decide) rfl
  have hKc := hK.sub (tys' := [(cT, .byte)]) [0] rfl
  have hFc := va_free (wc := [(ta, .inr (3, [.ref tb, .int 8])), (tb, .inl (cT, 3100, .inl tg_6))]) hD hS hA [1, 2] rfl
  refine va_callv (va_runV (As := [.int n2]) (rest := []) ⟨hx, hb, hml, hown, hts⟩ (k_app8 l dC dI ta tb cT tg_6 n2 H.size) (cwV 1 hts gX7_feed_X4_append rfl rfl rfl (by decide +kernel) ⟨Nat.le_of_ble_eq_true rfl, Nat.le_of_ble_eq_true rfl⟩) ⟨fun a U g mk q => by obtain ⟨q0, q1, qP, qK, qD⟩ := q; exact ⟨q0, q1, qP, va_K.moved (u := U) (U := U.calling g mk a) (Vm.Alike.refl U.vm) qK, qD⟩, va_recv hKc hPc (ci := 3) (q0 := 0) rfl rfl, fun U hU hW => ⟨rfl, by rw [hU], by rw [hU]; exact hPc, va_K.moved hW.alike hKc, hDc.weaken (fun _ _ _ _ => trivial)⟩⟩ rfl rfl hl.1 rfl (lv_room (Nat.le_of_ble_eq_true rfl)) dX7_feed_39 ⟨show 0 + 0 ≤ 0 by omega, show 0 + 0 ≤ 0 by omega⟩) hS (fun q _ h => hFc q h) hFc (fun u t H1 locs ht hvm hw hB hz1 hk1 hS => ?_)
  obtain ⟨tg_8, rfl⟩ : ∃ z, z = u := ⟨_, rfl⟩
  obtain ⟨hP1, hK1, hD1⟩ := hB
  rw [ht] at hP1
  have hK1 := va_K.moved hvm.symm hK1
  try dsimp only at hw
  obtain ⟨hP, hD⟩ := va_join (wr := [(bt, .inr (5, [.ref ta, .ref wi, .ref se, .ref re, .int eb, .int sn, .int sp, .int sa, .int sm]))]) (w1 := [(ta, .inr (3, [.ref tb, .int 12])), (tb, .inl (cT, 3100, .inl tg_8))]) hP hD [1, 2] [0] rfl rfl (by decide) (by decide) hk1 hFc hP1 hD1
  have hK := (hK.sub (tys' := []) [] rfl).app hK1
  generalize H1 = H at hP hS ⊢
  have hK : va_K (dC, dI) vwCl [(cT, .byte)] s := hK
  have hP : va_P (dC, dI) vwCl [(bt, .inr (5, [.ref ta, .ref wi, .ref se, .ref re, .int eb, .int sn, .int sp, .int sa, .int sm])), (ta, .inr (3, [.ref tb, .int 12])), (tb, .inl (cT, 3100, .inl tg_8))] H := hP
  have hD : va_D A [(bt, .inr (5, [.ref ta, .ref wi, .ref se, .ref re, .int eb, .int sn, .int sp, .int sa, .int sm])), (ta, .inr (3, [.ref tb, .int 12])), (tb, .inl (cT, 3100, .inl tg_8))] := hD
  refine lv_aload_n hx hb dX7_feed_42 rfl (lv_at hl 0 rfl) ?_
  refine va_get (D := (dC, dI)) (ci := 5) (v := .ref ta) (C := RX7) (T := TX7) (N := 9) hx hb hts iX7 hown hK hP 0 rfl rfl 0 (by decide) (hts (.fieldLink RX7 12 "BatchTransfer" "tape" "LBatchTransfer$Tape;") (by decide +kernel)) (fun _ h9 => h9) rfl dX7_feed_43 ?_
  refine lv_iload hx hb dX7_feed_46 (lv_at hl 4 rfl) ?_
  have hPc := hP.sub (ws' := [(ta, .inr (3, [.ref tb, .int 12])), (tb, .inl (cT, 3100, .inl tg_8))]) [1, 2] rfl
  have hDc := hD.sub (ws' := [(ta, .inr (3, [.ref tb, .int 12])), (tb, .inl (cT, 3100, .inl tg_8))]) [1, 2] (by decide) rfl
  have hKc := hK.sub (tys' := [(cT, .byte)]) [0] rfl
  have hFc := va_free (wc := [(ta, .inr (3, [.ref tb, .int 12])), (tb, .inl (cT, 3100, .inl tg_8))]) hD hS hA [1, 2] rfl
  refine va_callv (va_runV (As := [.int n3]) (rest := []) ⟨hx, hb, hml, hown, hts⟩ (k_app12 l dC dI ta tb cT tg_8 n3 H.size) (cwV 1 hts gX7_feed_X4_append rfl rfl rfl (by decide +kernel) ⟨Nat.le_of_ble_eq_true rfl, Nat.le_of_ble_eq_true rfl⟩) ⟨fun a U g mk q => by obtain ⟨q0, q1, qP, qK, qD⟩ := q; exact ⟨q0, q1, qP, va_K.moved (u := U) (U := U.calling g mk a) (Vm.Alike.refl U.vm) qK, qD⟩, va_recv hKc hPc (ci := 3) (q0 := 0) rfl rfl, fun U hU hW => ⟨rfl, by rw [hU], by rw [hU]; exact hPc, va_K.moved hW.alike hKc, hDc.weaken (fun _ _ _ _ => trivial)⟩⟩ rfl rfl hl.1 rfl (lv_room (Nat.le_of_ble_eq_true rfl)) dX7_feed_48 ⟨show 0 + 0 ≤ 0 by omega, show 0 + 0 ≤ 0 by omega⟩) hS (fun q _ h => hFc q h) hFc (fun u t H1 locs ht hvm hw hB hz1 hk1 hS => ?_)
  obtain ⟨tg_10, rfl⟩ : ∃ z, z = u := ⟨_, rfl⟩
  obtain ⟨hP1, hK1, hD1⟩ := hB
  rw [ht] at hP1
  have hK1 := va_K.moved hvm.symm hK1
  try dsimp only at hw
  obtain ⟨hP, hD⟩ := va_join (wr := [(bt, .inr (5, [.ref ta, .ref wi, .ref se, .ref re, .int eb, .int sn, .int sp, .int sa, .int sm]))]) (w1 := [(ta, .inr (3, [.ref tb, .int 16])), (tb, .inl (cT, 3100, .inl tg_10))]) hP hD [1, 2] [0] rfl rfl (by decide) (by decide) hk1 hFc hP1 hD1
  have hK := (hK.sub (tys' := []) [] rfl).app hK1
  generalize H1 = H at hP hS ⊢
  have hK : va_K (dC, dI) vwCl [(cT, .byte)] s := hK
  have hP : va_P (dC, dI) vwCl [(bt, .inr (5, [.ref ta, .ref wi, .ref se, .ref re, .int eb, .int sn, .int sp, .int sa, .int sm])), (ta, .inr (3, [.ref tb, .int 16])), (tb, .inl (cT, 3100, .inl tg_10))] H := hP
  have hD : va_D A [(bt, .inr (5, [.ref ta, .ref wi, .ref se, .ref re, .int eb, .int sn, .int sp, .int sa, .int sm])), (ta, .inr (3, [.ref tb, .int 16])), (tb, .inl (cT, 3100, .inl tg_10))] := hD
  refine lv_aload_n hx hb dX7_feed_51 rfl (lv_at hl 0 rfl) ?_
  refine va_get (D := (dC, dI)) (ci := 5) (v := .ref ta) (C := RX7) (T := TX7) (N := 9) hx hb hts iX7 hown hK hP 0 rfl rfl 0 (by decide) (hts (.fieldLink RX7 12 "BatchTransfer" "tape" "LBatchTransfer$Tape;") (by decide +kernel)) (fun _ h9 => h9) rfl dX7_feed_52 ?_
  refine lv_iload hx hb dX7_feed_55 (lv_at hl 5 rfl) ?_
  have hPc := hP.sub (ws' := [(ta, .inr (3, [.ref tb, .int 16])), (tb, .inl (cT, 3100, .inl tg_10))]) [1, 2] rfl
  have hDc := hD.sub (ws' := [(ta, .inr (3, [.ref tb, .int 16])), (tb, .inl (cT, 3100, .inl tg_10))]) [1, 2] (by decide) rfl
  have hKc := hK.sub (tys' := [(cT, .byte)]) [0] rfl
  have hFc := va_free (wc := [(ta, .inr (3, [.ref tb, .int 16])), (tb, .inl (cT, 3100, .inl tg_10))]) hD hS hA [1, 2] rfl
  refine va_callv (va_runV (As := [.int n4]) (rest := []) ⟨hx, hb, hml, hown, hts⟩ (k_app16 l dC dI ta tb cT tg_10 n4 H.size) (cwV 1 hts gX7_feed_X4_append rfl rfl rfl (by decide +kernel) ⟨Nat.le_of_ble_eq_true rfl, Nat.le_of_ble_eq_true rfl⟩) ⟨fun a U g mk q => by obtain ⟨q0, q1, qP, qK, qD⟩ := q; exact ⟨q0, q1, qP, va_K.moved (u := U) (U := U.calling g mk a) (Vm.Alike.refl U.vm) qK, qD⟩, va_recv hKc hPc (ci := 3) (q0 := 0) rfl rfl, fun U hU hW => ⟨rfl, by rw [hU], by rw [hU]; exact hPc, va_K.moved hW.alike hKc, hDc.weaken (fun _ _ _ _ => trivial)⟩⟩ rfl rfl hl.1 rfl (lv_room (Nat.le_of_ble_eq_true rfl)) dX7_feed_57 ⟨show 0 + 0 ≤ 0 by omega, show 0 + 0 ≤ 0 by omega⟩) hS (fun q _ h => hFc q h) hFc (fun u t H1 locs ht hvm hw hB hz1 hk1 hS => ?_)
  obtain ⟨tg_12, rfl⟩ : ∃ z, z = u := ⟨_, rfl⟩
  obtain ⟨hP1, hK1, hD1⟩ := hB
  rw [ht] at hP1
  have hK1 := va_K.moved hvm.symm hK1
  try dsimp only at hw
  obtain ⟨hP, hD⟩ := va_join (wr := [(bt, .inr (5, [.ref ta, .ref wi, .ref se, .ref re, .int eb, .int sn, .int sp, .int sa, .int sm]))]) (w1 := [(ta, .inr (3, [.ref tb, .int 20])), (tb, .inl (cT, 3100, .inl tg_12))]) hP hD [1, 2] [0] rfl rfl (by decide) (by decide) hk1 hFc hP1 hD1
  have hK := (hK.sub (tys' := []) [] rfl).app hK1
  generalize H1 = H at hP hS ⊢
  have hK : va_K (dC, dI) vwCl [(cT, .byte)] s := hK
  have hP : va_P (dC, dI) vwCl [(bt, .inr (5, [.ref ta, .ref wi, .ref se, .ref re, .int eb, .int sn, .int sp, .int sa, .int sm])), (ta, .inr (3, [.ref tb, .int 20])), (tb, .inl (cT, 3100, .inl tg_12))] H := hP
  have hD : va_D A [(bt, .inr (5, [.ref ta, .ref wi, .ref se, .ref re, .int eb, .int sn, .int sp, .int sa, .int sm])), (ta, .inr (3, [.ref tb, .int 20])), (tb, .inl (cT, 3100, .inl tg_12))] := hD
  refine lv_iconst (v := 1) hx hb dX7_feed_60 (by decide) ?_
  exact W.zret (v := 1) hx hb hr rfl (fun t ht hW => ⟨⟨1, (), rfl, rfl, trivial⟩, hS.F ht⟩) hS.2.2 dX7_feed_61
