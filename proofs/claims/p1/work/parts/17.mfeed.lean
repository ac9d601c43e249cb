set_option maxHeartbeats 4000000 in
set_option maxRecDepth 100000 in
theorem m_feed (l : Launch) (dC : Nat → ClassId) (dI : Nat → Nat → Nat) (mo m1 m2 m5 m6 m7 m8 m10 m11 m12 m13 m14 m18 m34 m35 m36 m37 : Nat) (k2 : ClassId) (tf : Nat → Int32) (n0 n1 n2 n3 n4 : Int32) (sz : Nat) : Met l yX8_feed wsX8_feed ({ frames := 0, cells := 0, slots := 0, locals := 0 }) (va_Pc [.ref mo, .int n0, .int n1, .int n2, .int n3, .int n4] (fun U => U.heap.size = sz ∧ va_P (dC, dI) vwCl [(mo, .inr (6, [.int 0, .ref m1, .ref m2, .int 0, .int 0, .ref m5, .ref m6, .ref m7, .ref m8, .int 0, .ref m10, .ref m11, .ref m12, .ref m13, .ref m14, .int 0, .int 0, .int 0, .ref m18, .int 0, .int 0, .int 0, .int 0, .int 0, .int 0, .int 0, .int 0, .int 0, .int 0, .int 0, .int 0, .int 0, .int 0, .int 0, .ref m34, .ref m35, .ref m36, .ref m37, .int 0])), (m2, .inl (k2, 3100, .inl tf))] U.heap ∧ va_K (dC, dI) vwCl [(k2, .byte)] U ∧ va_D (fun _ => True) [(mo, .inr (6, [.int 0, .ref m1, .ref m2, .int 0, .int 0, .ref m5, .ref m6, .ref m7, .ref m8, .int 0, .ref m10, .ref m11, .ref m12, .ref m13, .ref m14, .int 0, .int 0, .int 0, .ref m18, .int 0, .int 0, .int 0, .int 0, .int 0, .int 0, .int 0, .int 0, .int 0, .int 0, .int 0, .int 0, .int 0, .int 0, .int 0, .ref m34, .ref m35, .ref m36, .ref m37, .int 0])), (m2, .inl (k2, 3100, .inl tf))])) (va_Qi (fun (r : Int32) (_ : Unit) => r = 1) (fun (_ : Unit) (_ : State) => True) (va_A [(mo, .inr (6, [.int 0, .ref m1, .ref m2, .int 0, .int 0, .ref m5, .ref m6, .ref m7, .ref m8, .int 0, .ref m10, .ref m11, .ref m12, .ref m13, .ref m14, .int 0, .int 0, .int 0, .ref m18, .int 0, .int 0, .int 0, .int 0, .int 0, .int 0, .int 0, .int 0, .int 0, .int 0, .int 0, .int 0, .int 0, .int 0, .int 0, .ref m34, .ref m35, .ref m36, .ref m37, .int 0])), (m2, .inl (k2, 3100, .inl tf))] sz)) 0 0 (va_A [(mo, .inr (6, [.int 0, .ref m1, .ref m2, .int 0, .int 0, .ref m5, .ref m6, .ref m7, .ref m8, .int 0, .ref m10, .ref m11, .ref m12, .ref m13, .ref m14, .int 0, .int 0, .int 0, .ref m18, .int 0, .int 0, .int 0, .int 0, .int 0, .int 0, .int 0, .int 0, .int 0, .int 0, .int 0, .int 0, .int 0, .int 0, .int 0, .ref m34, .ref m35, .ref m36, .ref m37, .int 0])), (m2, .inl (k2, 3100, .inl tf))] sz) := by
  refine Met.ofW (cc := cX8_feed) (maxL := 8) (ret := (some .boolean)) (by decide) rfl ?_
  intro p e s m args below meth c s₁ B hml hv
  obtain ⟨rfl, hsz, hP, hK, hD0⟩ := hv
  have hx := B.exec
  have hb := B.bytes
  have hr := B.returns
  have hts := atoms_spec (ws := wsX8_feed) B.pre
  have hown : s.vm.findClass RX8 = some m.cls := findClass_of_methodNamed B.named
  have hlocks := B.notSynchronized
  subst hsz
  have hD := hD0.self (sz := s.heap.size)
  generalize hAe : va_A [(mo, .inr (6, [.int 0, .ref m1, .ref m2, .int 0, .int 0, .ref m5, .ref m6, .ref m7, .ref m8, .int 0, .ref m10, .ref m11, .ref m12, .ref m13, .ref m14, .int 0, .int 0, .int 0, .ref m18, .int 0, .int 0, .int 0, .int 0, .int 0, .int 0, .int 0, .int 0, .int 0, .int 0, .int 0, .int 0, .int 0, .int 0, .int 0, .ref m34, .ref m35, .ref m36, .ref m37, .int 0])), (m2, .inl (k2, 3100, .inl tf))] s.heap.size = A at hD ⊢
  have hA : ∀ q : Nat, s.heap.size ≤ q → A q := fun q h => by rw [← hAe]; exact Or.inr h
  have hS : va_S A s.heap s.heap [] := va_S.rf
  have hP : va_P (dC, dI) vwCl [(mo, .inr (6, [.int 0, .ref m1, .ref m2, .int 0, .int 0, .ref m5, .ref m6, .ref m7, .ref m8, .int 0, .ref m10, .ref m11, .ref m12, .ref m13, .ref m14, .int 0, .int 0, .int 0, .ref m18, .int 0, .int 0, .int 0, .int 0, .int 0, .int 0, .int 0, .int 0, .int 0, .int 0, .int 0, .int 0, .int 0, .int 0, .int 0, .ref m34, .ref m35, .ref m36, .ref m37, .int 0])), (m2, .inl (k2, 3100, .inl tf))] s.heap := hP
  have hl := lv_entry ([.ref mo, .int n0, .int n1, .int n2, .int n3, .int n4]) (n := 8) (Nat.le_of_ble_eq_true rfl)
  rw [lg_entry_eq]
  generalize (lg_sl ([.ref mo, .int n0, .int n1, .int n2, .int n3, .int n4]) ++ List.replicate (8 - (lg_sl ([.ref mo, .int n0, .int n1, .int n2, .int n3, .int n4])).length) Slot.unset).toArray = ls at hl ⊢
  have hl : lv_has ls 8 [(0, .ref mo), (1, .int n0), (2, .int n1), (3, .int n2), (4, .int n3), (5, .int n4)] := hl
  have iX8 : ∀ w ∈ wsX80, w ∈ wsX8_feed := by decide +kernel
  refine lv_aload_n hx hb dX8_feed_0 rfl (lv_at hl 0 rfl) ?_
  refine lv_iconst (v := 0) hx hb dX8_feed_1 (by decide) ?_
  refine va_put (D := (dC, dI)) (ci := 6) (v := .int 0) (ty := .int) (C := RX8) (T := TX8) (N := 39) hx hb hts iX8 tyX8 tyX8_ok nmX8 hown hK hP hD hS 0 rfl rfl 0 (by decide) (hts (.fieldLink RX8 7 "BatchTransferModel" "thrownCode" "I") (by decide +kernel)) (fun _ h9 => h9) rfl (by decide +kernel) rfl rfl (Nat.le_of_ble_eq_true rfl) dX8_feed_2 (fun H locs hP hD hS => ?_)
  have hP : va_P (dC, dI) vwCl [(mo, .inr (6, [.int 0, .ref m1, .ref m2, .int 0, .int 0, .ref m5, .ref m6, .ref m7, .ref m8, .int 0, .ref m10, .ref m11, .ref m12, .ref m13, .ref m14, .int 0, .int 0, .int 0, .ref m18, .int 0, .int 0, .int 0, .int 0, .int 0, .int 0, .int 0, .int 0, .int 0, .int 0, .int 0, .int 0, .int 0, .int 0, .int 0, .ref m34, .ref m35, .ref m36, .ref m37, .int 0])), (m2, .inl (k2, 3100, .inl tf))] H := hP
  have hD : va_D A [(mo, .inr (6, [.int 0, .ref m1, .ref m2, .int 0, .int 0, .ref m5, .ref m6, .ref m7, .ref m8, .int 0, .ref m10, .ref m11, .ref m12, .ref m13, .ref m14, .int 0, .int 0, .int 0, .ref m18, .int 0, .int 0, .int 0, .int 0, .int 0, .int 0, .int 0, .int 0, .int 0, .int 0, .int 0, .int 0, .int 0, .int 0, .int 0, .ref m34, .ref m35, .ref m36, .ref m37, .int 0])), (m2, .inl (k2, 3100, .inl tf))] := hD
  refine lv_aload_n hx hb dX8_feed_5 rfl (lv_at hl 0 rfl) ?_
  refine va_get (D := (dC, dI)) (ci := 6) (v := .int 0) (C := RX8) (T := TX8) (N := 39) hx hb hts iX8 hown hK hP 0 rfl rfl 3 (by decide) (hts (.fieldLink RX8 21 "BatchTransferModel" "tapeLen" "I") (by decide +kernel)) (fun _ h9 => h9) rfl dX8_feed_6 ?_
  refine lv_bipush (v := 20) hx hb dX8_feed_9 (by decide) ?_
  refine lv_iadd hx hb dX8_feed_11 ?_
  refine lv_topi (fun x_1 ex_1 => ?_)
  obtain rfl : x_1 = 20 := ex_1.trans (by decide)
  refine lv_sipush (v := 3100) hx hb dX8_feed_12 (by decide) ?_
  refine lv_icmp_le (tgt := 20) hx hb dX8_feed_15 (by decide) (fun c_2 => ?_) (fun c_2 => absurd (by decide) c_2)
  refine lv_iconst (v := 0) hx hb dX8_feed_20 (by decide) ?_
  refine lv_istore (lv' := [(6, .int 0), (0, .ref mo), (1, .int n0), (2, .int n1), (3, .int n2), (4, .int n3), (5, .int n4)]) hx hb dX8_feed_21 hl (by decide) rfl (fun ls hl => ?_)
  refine lv_iload hx hb dX8_feed_23 (lv_at hl 0 rfl) ?_
  refine lv_bipush (v := 20) hx hb dX8_feed_25 (by decide) ?_
  refine lv_icmp_ge (tgt := 113) hx hb dX8_feed_27 (by decide) (fun c_3 => absurd c_3 (by decide)) (fun c_3 => ?_)
  refine lv_iload_n hx hb dX8_feed_30 rfl (lv_at hl 2 rfl) ?_
  refine lv_istore (lv' := [(7, .int n0), (6, .int 0), (0, .ref mo), (1, .int n0), (2, .int n1), (3, .int n2), (4, .int n3), (5, .int n4)]) hx hb dX8_feed_31 hl (by decide) rfl (fun ls hl => ?_)
  refine lv_iload hx hb dX8_feed_33 (lv_at hl 1 rfl) ?_
  refine lv_iconst (v := 4) hx hb dX8_feed_35 (by decide) ?_
  refine lv_icmp_lt (tgt := 42) hx hb dX8_feed_36 (by decide) (fun c_4 => ?_) (fun c_4 => absurd (by decide) c_4)
  refine lv_iload hx hb dX8_feed_42 (lv_at hl 1 rfl) ?_
  refine lv_bipush (v := 8) hx hb dX8_feed_44 (by decide) ?_
  refine lv_icmp_lt (tgt := 52) hx hb dX8_feed_46 (by decide) (fun c_5 => ?_) (fun c_5 => absurd (by decide) c_5)
  refine lv_iload hx hb dX8_feed_52 (lv_at hl 1 rfl) ?_
  refine lv_bipush (v := 12) hx hb dX8_feed_54 (by decide) ?_
  refine lv_icmp_lt (tgt := 63) hx hb dX8_feed_56 (by decide) (fun c_6 => ?_) (fun c_6 => absurd (by decide) c_6)
  refine lv_iload hx hb dX8_feed_63 (lv_at hl 1 rfl) ?_
  refine lv_bipush (v := 16) hx hb dX8_feed_65 (by decide) ?_
  refine lv_icmp_lt (tgt := 74) hx hb dX8_feed_67 (by decide) (fun c_7 => ?_) (fun c_7 => absurd (by decide) c_7)
  refine lv_aload_n hx hb dX8_feed_74 rfl (lv_at hl 2 rfl) ?_
  refine va_get (D := (dC, dI)) (ci := 6) (v := .ref m2) (C := RX8) (T := TX8) (N := 39) hx hb hts iX8 hown hK hP 0 rfl rfl 2 (by decide) (hts (.fieldLink RX8 17 "BatchTransferModel" "tape" "[B") (by decide +kernel)) (fun _ h9 => h9) rfl dX8_feed_75 ?_
  refine lv_aload_n hx hb dX8_feed_78 rfl (lv_at hl 2 rfl) ?_
  refine va_get (D := (dC, dI)) (ci := 6) (v := .int 0) (C := RX8) (T := TX8) (N := 39) hx hb hts iX8 hown hK hP 0 rfl rfl 3 (by decide) (hts (.fieldLink RX8 21 "BatchTransferModel" "tapeLen" "I") (by decide +kernel)) (fun _ h9 => h9) rfl dX8_feed_79 ?_
  refine lv_iload hx hb dX8_feed_82 (lv_at hl 0 rfl) ?_
  refine lv_bipush (v := 24) hx hb dX8_feed_84 (by decide) ?_
  refine lv_bipush (v := 8) hx hb dX8_feed_86 (by decide) ?_
  refine lv_iload hx hb dX8_feed_88 (lv_at hl 1 rfl) ?_
  refine lv_iconst (v := 3) hx hb dX8_feed_90 (by decide) ?_
  refine lv_iand hx hb dX8_feed_91 ?_
  refine lv_topi (fun x_8 ex_8 => ?_)
  obtain rfl : x_8 = 0 := ex_8.trans (by decide)
  refine lv_imul hx hb dX8_feed_92 ?_
  refine lv_topi (fun x_9 ex_9 => ?_)
  obtain rfl : x_9 = 0 := ex_9.trans (by decide)
  refine lv_isub hx hb dX8_feed_93 ?_
  refine lv_topi (fun x_10 ex_10 => ?_)
  obtain rfl : x_10 = 24 := ex_10.trans (by decide)
  refine lv_ishr hx hb dX8_feed_94 ?_
  refine lv_topi (fun x_11 ex_11 => ?_)
  refine lv_i2b hx hb dX8_feed_95 rfl ?_
  refine lv_topi (fun x_12 ex_12 => ?_)
  have h_13 : vp_in (0) 3100 := by unfold vp_in; decide +kernel
  refine va_bast hx hb hK hP hD hS 1 0 rfl rfl h_13 dX8_feed_96 (fun H locs hP hD hS => ?_)
  obtain ⟨f_14, ef_14⟩ : ∃ g : Nat → Int32, g = upd tf (0 : Int32).toNatClampNeg (vp_nar .byte x_12) := ⟨_, rfl⟩
  have hP : va_P (dC, dI) vwCl [(mo, .inr (6, [.int 0, .ref m1, .ref m2, .int 0, .int 0, .ref m5, .ref m6, .ref m7, .ref m8, .int 0, .ref m10, .ref m11, .ref m12, .ref m13, .ref m14, .int 0, .int 0, .int 0, .ref m18, .int 0, .int 0, .int 0, .int 0, .int 0, .int 0, .int 0, .int 0, .int 0, .int 0, .int 0, .int 0, .int 0, .int 0, .int 0, .ref m34, .ref m35, .ref m36, .ref m37, .int 0])), (m2, .inl (k2, 3100, .inl f_14))] H := by rw [ef_14]; exact hP
  have hD : va_D A [(mo, .inr (6, [.int 0, .ref m1, .ref m2, .int 0, .int 0, .ref m5, .ref m6, .ref m7, .ref m8, .int 0, .ref m10, .ref m11, .ref m12, .ref m13, .ref m14, .int 0, .int 0, .int 0, .ref m18, .int 0, .int 0, .int 0, .int 0, .int 0, .int 0, .int 0, .int 0, .int 0, .int 0, .int 0, .int 0, .int 0, .int 0, .int 0, .ref m34, .ref m35, .ref m36, .ref m37, .int 0])), (m2, .inl (k2, 3100, .inl f_14))] := by rw [ef_14]; exact hD
  refine lv_aload_n hx hb dX8_feed_97 rfl (lv_at hl 2 rfl) ?_
  refine lv_dup hx hb dX8_feed_98 rfl ?_
  refine va_get (D := (dC, dI)) (ci := 6) (v := .int 0) (C := RX8) (T := TX8) (N := 39) hx hb hts iX8 hown hK hP 0 rfl rfl 3 (by decide) (hts (.fieldLink RX8 21 "BatchTransferModel" "tapeLen" "I") (by decide +kernel)) (fun _ h9 => h9) rfl dX8_feed_99 ?_
  refine lv_iconst (v := 1) hx hb dX8_feed_102 (by decide) ?_
  refine lv_iadd hx hb dX8_feed_103 ?_
  refine lv_topi (fun x_15 ex_15 => ?_)
  obtain rfl : x_15 = 1 := ex_15.trans (by decide)
  refine va_put (D := (dC, dI)) (ci := 6) (v := .int 1) (ty := .int) (C := RX8) (T := TX8) (N := 39) hx hb hts iX8 tyX8 tyX8_ok nmX8 hown hK hP hD hS 0 rfl rfl 3 (by decide) (hts (.fieldLink RX8 21 "BatchTransferModel" "tapeLen" "I") (by decide +kernel)) (fun _ h9 => h9) rfl (by decide +kernel) rfl rfl (Nat.le_of_ble_eq_true rfl) dX8_feed_104 (fun H locs hP hD hS => ?_)
  have hP : va_P (dC, dI) vwCl [(mo, .inr (6, [.int 0, .ref m1, .ref m2, .int 1, .int 0, .ref m5, .ref m6, .ref m7, .ref m8, .int 0, .ref m10, .ref m11, .ref m12, .ref m13, .ref m14, .int 0, .int 0, .int 0, .ref m18, .int 0, .int 0, .int 0, .int 0, .int 0, .int 0, .int 0, .int 0, .int 0, .int 0, .int 0, .int 0, .int 0, .int 0, .int 0, .ref m34, .ref m35, .ref m36, .ref m37, .int 0])), (m2, .inl (k2, 3100, .inl f_14))] H := hP
  have hD : va_D A [(mo, .inr (6, [.int 0, .ref m1, .ref m2, .int 1, .int 0, .ref m5, .ref m6, .ref m7, .ref m8, .int 0, .ref m10, .ref m11, .ref m12, .ref m13, .ref m14, .int 0, .int 0, .int 0, .ref m18, .int 0, .int 0, .int 0, .int 0, .int 0, .int 0, .int 0, .int 0, .int 0, .int 0, .int 0, .int 0, .int 0, .int 0, .int 0, .ref m34, .ref m35, .ref m36, .ref m37, .int 0])), (m2, .inl (k2, 3100, .inl f_14))] := hD
  refine lv_iinc (v := 1) (lv' := [(6, .int 1), (7, .int n0), (0, .ref mo), (1, .int n0), (2, .int n1), (3, .int n2), (4, .int n3), (5, .int n4)]) hx hb dX8_feed_107 hl (k := 1) rfl (by decide) (by decide) rfl (fun ls hl => ?_)
  refine lv_goto (tgt := 23) hx hb dX8_feed_110 (by decide) ?_
  refine lv_iload hx hb dX8_feed_23 (lv_at hl 0 rfl) ?_
  refine lv_bipush (v := 20) hx hb dX8_feed_25 (by decide) ?_
  refine lv_icmp_ge (tgt := 113) hx hb dX8_feed_27 (by decide) (fun c_16 => absurd c_16 (by decide)) (fun c_16 => ?_)
  refine lv_iload_n hx hb dX8_feed_30 rfl (lv_at hl 3 rfl) ?_
  refine lv_istore (lv' := [(7, .int n0), (6, .int 1), (0, .ref mo), (1, .int n0), (2, .int n1), (3, .int n2), (4, .int n3), (5, .int n4)]) hx hb dX8_feed_31 hl (by decide) rfl (fun ls hl => ?_)
  refine lv_iload hx hb dX8_feed_33 (lv_at hl 1 rfl) ?_
  refine lv_iconst (v := 4) hx hb dX8_feed_35 (by decide) ?_
  refine lv_icmp_lt (tgt := 42) hx hb dX8_feed_36 (by decide) (fun c_17 => ?_) (fun c_17 => absurd (by decide) c_17)
  refine lv_iload hx hb dX8_feed_42 (lv_at hl 1 rfl) ?_
  refine lv_bipush (v := 8) hx hb dX8_feed_44 (by decide) ?_
  refine lv_icmp_lt (tgt := 52) hx hb dX8_feed_46 (by decide) (fun c_18 => ?_) (fun c_18 => absurd (by decide) c_18)
  refine lv_iload hx hb dX8_feed_52 (lv_at hl 1 rfl) ?_
  refine lv_bipush (v := 12) hx hb dX8_feed_54 (by decide) ?_
  refine lv_icmp_lt (tgt := 63) hx hb dX8_feed_56 (by decide) (fun c_19 => ?_) (fun c_19 => absurd (by decide) c_19)
  refine lv_iload hx hb dX8_feed_63 (lv_at hl 1 rfl) ?_
  refine lv_bipush (v := 16) hx hb dX8_feed_65 (by decide) ?_
  refine lv_icmp_lt (tgt := 74) hx hb dX8_feed_67 (by decide) (fun c_20 => ?_) (fun c_20 => absurd (by decide) c_20)
  refine lv_aload_n hx hb dX8_feed_74 rfl (lv_at hl 2 rfl) ?_
  refine va_get (D := (dC, dI)) (ci := 6) (v := .ref m2) (C := RX8) (T := TX8) (N := 39) hx hb hts iX8 hown hK hP 0 rfl rfl 2 (by decide) (hts (.fieldLink RX8 17 "BatchTransferModel" "tape" "[B") (by decide +kernel)) (fun _ h9 => h9) rfl dX8_feed_75 ?_
  refine lv_aload_n hx hb dX8_feed_78 rfl (lv_at hl 2 rfl) ?_
  refine va_get (D := (dC, dI)) (ci := 6) (v := .int 1) (C := RX8) (T := TX8) (N := 39) hx hb hts iX8 hown hK hP 0 rfl rfl 3 (by decide) (hts (.fieldLink RX8 21 "BatchTransferModel" "tapeLen" "I") (by decide +kernel)) (fun _ h9 => h9) rfl dX8_feed_79 ?_
  refine lv_iload hx hb dX8_feed_82 (lv_at hl 0 rfl) ?_
  refine lv_bipush (v := 24) hx hb dX8_feed_84 (by decide) ?_
  refine lv_bipush (v := 8) hx hb dX8_feed_86 (by decide) ?_
  refine lv_iload hx hb dX8_feed_88 (lv_at hl 1 rfl) ?_
  refine lv_iconst (v := 3) hx hb dX8_feed_90 (by decide) ?_
  refine lv_iand hx hb dX8_feed_91 ?_
  refine lv_topi (fun x_21 ex_21 => ?_)
  obtain rfl : x_21 = 1 := ex_21.trans (by decide)
  refine lv_imul hx hb dX8_feed_92 ?_
  refine lv_topi (fun x_22 ex_22 => ?_)
  obtain rfl : x_22 = 8 := ex_22.trans (by decide)
  refine lv_isub hx hb dX8_feed_93 ?_
  refine lv_topi (fun x_23 ex_23 => ?_)
  obtain rfl : x_23 = 16 := ex_23.trans (by decide)
  refine lv_ishr hx hb dX8_feed_94 ?_
  refine lv_topi (fun x_24 ex_24 => ?_)
  refine lv_i2b hx hb dX8_feed_95 rfl ?_
  refine lv_topi (fun x_25 ex_25 => ?_)
  have h_26 : vp_in (1) 3100 := by unfold vp_in; decide +kernel
  refine va_bast hx hb hK hP hD hS 1 0 rfl rfl h_26 dX8_feed_96 (fun H locs hP hD hS => ?_)
  obtain ⟨f_27, ef_27⟩ : ∃ g : Nat → Int32, g = upd f_14 (1 : Int32).toNatClampNeg (vp_nar .byte x_25) := ⟨_, rfl⟩
  have hP : va_P (dC, dI) vwCl [(mo, .inr (6, [.int 0, .ref m1, .ref m2, .int 1, .int 0, .ref m5, .ref m6, .ref m7, .ref m8, .int 0, .ref m10, .ref m11, .ref m12, .ref m13, .ref m14, .int 0, .int 0, .int 0, .ref m18, .int 0, .int 0, .int 0, .int 0, .int 0, .int 0, .int 0, .int 0, .int 0, .int 0, .int 0, .int 0, .int 0, .int 0, .int 0, .ref m34, .ref m35, .ref m36, .ref m37, .int 0])), (m2, .inl (k2, 3100, .inl f_27))] H := by rw [ef_27]; exact hP
  have hD : va_D A [(mo, .inr (6, [.int 0, .ref m1, .ref m2, .int 1, .int 0, .ref m5, .ref m6, .ref m7, .ref m8, .int 0, .ref m10, .ref m11, .ref m12, .ref m13, .ref m14, .int 0, .int 0, .int 0, .ref m18, .int 0, .int 0, .int 0, .int 0, .int 0, .int 0, .int 0, .int 0, .int 0, .int 0, .int 0, .int 0, .int 0, .int 0, .int 0, .ref m34, .ref m35, .ref m36, .ref m37, .int 0])), (m2, .inl (k2, 3100, .inl f_27))] := by rw [ef_27]; exact hD
  refine lv_aload_n hx hb dX8_feed_97 rfl (lv_at hl 2 rfl) ?_
  refine lv_dup hx hb dX8_feed_98 rfl ?_
  refine va_get (D := (dC, dI)) (ci := 6) (v := .int 1) (C := RX8) (T := TX8) (N := 39) hx hb hts iX8 hown hK hP 0 rfl rfl 3 (by decide) (hts (.fieldLink RX8 21 "BatchTransferModel" "tapeLen" "I") (by decide +kernel)) (fun _ h9 => h9) rfl dX8_feed_99 ?_
  refine lv_iconst (v := 1) hx hb dX8_feed_102 (by decide) ?_
  refine lv_iadd hx hb dX8_feed_103 ?_
  refine lv_topi (fun x_28 ex_28 => ?_)
  obtain rfl : x_28 = 2 := ex_28.trans (by decide)
  refine va_put (D := (dC, dI)) (ci := 6) (v := .int 2) (ty := .int) (C := RX8) (T := TX8) (N := 39) hx hb hts iX8 tyX8 tyX8_ok nmX8 hown hK hP hD hS 0 rfl rfl 3 (by decide) (hts (.fieldLink RX8 21 "BatchTransferModel" "tapeLen" "I") (by decide +kernel)) (fun _ h9 => h9) rfl (by decide +kernel) rfl rfl (Nat.le_of_ble_eq_true rfl) dX8_feed_104 (fun H locs hP hD hS => ?_)
  have hP : va_P (dC, dI) vwCl [(mo, .inr (6, [.int 0, .ref m1, .ref m2, .int 2, .int 0, .ref m5, .ref m6, .ref m7, .ref m8, .int 0, .ref m10, .ref m11, .ref m12, .ref m13, .ref m14, .int 0, .int 0, .int 0, .ref m18, .int 0, .int 0, .int 0, .int 0, .int 0, .int 0, .int 0, .int 0, .int 0, .int 0, .int 0, .int 0, .int 0, .int 0, .int 0, .ref m34, .ref m35, .ref m36, .ref m37, .int 0])), (m2, .inl (k2, 3100, .inl f_27))] H := hP
  have hD : va_D A [(mo, .inr (6, [.int 0, .ref m1, .ref m2, .int 2, .int 0, .ref m5, .ref m6, .ref m7, .ref m8, .int 0, .ref m10, .ref m11, .ref m12, .ref m13, .ref m14, .int 0, .int 0, .int 0, .ref m18, .int 0, .int 0, .int 0, .int 0, .int 0, .int 0, .int 0, .int 0, .int 0, .int 0, .int 0, .int 0, .int 0, .int 0, .int 0, .ref m34, .ref m35, .ref m36, .ref m37, .int 0])), (m2, .inl (k2, 3100, .inl f_27))] := hD
  refine lv_iinc (v := 2) (lv' := [(6, .int 2), (7, .int n0), (0, .ref mo), (1, .int n0), (2, .int n1), (3, .int n2), (4, .int n3), (5, .int n4)]) hx hb dX8_feed_107 hl (k := 1) rfl (by decide) (by decide) rfl (fun ls hl => ?_)
  refine lv_goto (tgt := 23) hx hb dX8_feed_110 (by decide) ?_
  refine lv_iload hx hb dX8_feed_23 (lv_at hl 0 rfl) ?_
  refine lv_bipush (v := 20) hx hb dX8_feed_25 (by decide) ?_
  refine lv_icmp_ge (tgt := 113) hx hb dX8_feed_27 (by decide) (fun c_29 => absurd c_29 (by decide)) (fun c_29 => ?_)
  refine lv_iload_n hx hb dX8_feed_30 rfl (lv_at hl 3 rfl) ?_
  refine lv_istore (lv' := [(7, .int n0), (6, .int 2), (0, .ref mo), (1, .int n0), (2, .int n1), (3, .int n2), (4, .int n3), (5, .int n4)]) hx hb dX8_feed_31 hl (by decide) rfl (fun ls hl => ?_)
  refine lv_iload hx hb dX8_feed_33 (lv_at hl 1 rfl) ?_
  refine lv_iconst (v := 4) hx hb dX8_feed_35 (by decide) ?_
  refine lv_icmp_lt (tgt := 42) hx hb dX8_feed_36 (by decide) (fun c_30 => ?_) (fun c_30 => absurd (by decide) c_30)
  refine lv_iload hx hb dX8_feed_42 (lv_at hl 1 rfl) ?_
  refine lv_bipush (v := 8) hx hb dX8_feed_44 (by decide) ?_
  refine lv_icmp_lt (tgt := 52) hx hb dX8_feed_46 (by decide) (fun c_31 => ?_) (fun c_31 => absurd (by decide) c_31)
  refine lv_iload hx hb dX8_feed_52 (lv_at hl 1 rfl) ?_
  refine lv_bipush (v := 12) hx hb dX8_feed_54 (by decide) ?_
  refine lv_icmp_lt (tgt := 63) hx hb dX8_feed_56 (by decide) (fun c_32 => ?_) (fun c_32 => absurd (by decide) c_32)
  refine lv_iload hx hb dX8_feed_63 (lv_at hl 1 rfl) ?_
  refine lv_bipush (v := 16) hx hb dX8_feed_65 (by decide) ?_
  refine lv_icmp_lt (tgt := 74) hx hb dX8_feed_67 (by decide) (fun c_33 => ?_) (fun c_33 => absurd (by decide) c_33)
  refine lv_aload_n hx hb dX8_feed_74 rfl (lv_at hl 2 rfl) ?_
  refine va_get (D := (dC, dI)) (ci := 6) (v := .ref m2) (C := RX8) (T := TX8) (N := 39) hx hb hts iX8 hown hK hP 0 rfl rfl 2 (by decide) (hts (.fieldLink RX8 17 "BatchTransferModel" "tape" "[B") (by decide +kernel)) (fun _ h9 => h9) rfl dX8_feed_75 ?_
  refine lv_aload_n hx hb dX8_feed_78 rfl (lv_at hl 2 rfl) ?_
  refine va_get (D := (dC, dI)) (ci := 6) (v := .int 2) (C := RX8) (T := TX8) (N := 39) hx hb hts iX8 hown hK hP 0 rfl rfl 3 (by decide) (hts (.fieldLink RX8 21 "BatchTransferModel" "tapeLen" "I") (by decide +kernel)) (fun _ h9 => h9) rfl dX8_feed_79 ?_
  refine lv_iload hx hb dX8_feed_82 (lv_at hl 0 rfl) ?_
  refine lv_bipush (v := 24) hx hb dX8_feed_84 (by decide) ?_
  refine lv_bipush (v := 8) hx hb dX8_feed_86 (by decide) ?_
  refine lv_iload hx hb dX8_feed_88 (lv_at hl 1 rfl) ?_
  refine lv_iconst (v := 3) hx hb dX8_feed_90 (by decide) ?_
  refine lv_iand hx hb dX8_feed_91 ?_
  refine lv_topi (fun x_34 ex_34 => ?_)
  obtain rfl : x_34 = 2 := ex_34.trans (by decide)
  refine lv_imul hx hb dX8_feed_92 ?_
  refine lv_topi (fun x_35 ex_35 => ?_)
  obtain rfl : x_35 = 16 := ex_35.trans (by decide)
  refine lv_isub hx hb dX8_feed_93 ?_
  refine lv_topi (fun x_36 ex_36 => ?_)
  obtain rfl : x_36 = 8 := ex_36.trans (by decide)
  refine lv_ishr hx hb dX8_feed_94 ?_
  refine lv_topi (fun x_37 ex_37 => ?_)
  refine lv_i2b hx hb dX8_feed_95 rfl ?_
  refine lv_topi (fun x_38 ex_38 => ?_)
  have h_39 : vp_in (2) 3100 := by unfold vp_in; decide +kernel
  refine va_bast hx hb hK hP hD hS 1 0 rfl rfl h_39 dX8_feed_96 (fun H locs hP hD hS => ?_)
  obtain ⟨f_40, ef_40⟩ : ∃ g : Nat → Int32, g = upd f_27 (2 : Int32).toNatClampNeg (vp_nar .byte x_38) := ⟨_, rfl⟩
  have hP : va_P (dC, dI) vwCl [(mo, .inr (6, [.int 0, .ref m1, .ref m2, .int 2, .int 0, .ref m5, .ref m6, .ref m7, .ref m8, .int 0, .ref m10, .ref m11, .ref m12, .ref m13, .ref m14, .int 0, .int 0, .int 0, .ref m18, .int 0, .int 0, .int 0, .int 0, .int 0, .int 0, .int 0, .int 0, .int 0, .int 0, .int 0, .int 0, .int 0, .int 0, .int 0, .ref m34, .ref m35, .ref m36, .ref m37, .int 0])), (m2, .inl (k2, 3100, .inl f_40))] H := by rw [ef_40]; exact hP
  have hD : va_D A [(mo, .inr (6, [.int 0, .ref m1, .ref m2, .int 2, .int 0, .ref m5, .ref m6, .ref m7, .ref m8, .int 0, .ref m10, .ref m11, .ref m12, .ref m13, .ref m14, .int 0, .int 0, .int 0, .ref m18, .int 0, .int 0, .int 0, .int 0, .int 0, .int 0, .int 0, .int 0, .int 0, .int 0, .int 0, .int 0, .int 0, .int 0, .int 0, .ref m34, .ref m35, .ref m36, .ref m37, .int 0])), (m2, .inl (k2, 3100, .inl f_40))] := by rw [ef_40]; exact hD
  refine lv_aload_n hx hb dX8_feed_97 rfl (lv_at hl 2 rfl) ?_
  refine lv_dup hx hb dX8_feed_98 rfl ?_
  refine va_get (D := (dC, dI)) (ci := 6) (v := .int 2) (C := RX8) (T := TX8) (N := 39) hx hb hts iX8 hown hK hP 0 rfl rfl 3 (by decide) (hts (.fieldLink RX8 21 "BatchTransferModel" "tapeLen" "I") (by decide +kernel)) (fun _ h9 => h9) rfl dX8_feed_99 ?_
  refine lv_iconst (v := 1) hx hb dX8_feed_102 (by decide) ?_
  refine lv_iadd hx hb dX8_feed_103 ?_
  refine lv_topi (fun x_41 ex_41 => ?_)
  obtain rfl : x_41 = 3 := ex_41.trans (by decide)
  refine va_put (D := (dC, dI)) (ci := 6) (v := .int 3) (ty := .int) (C := RX8) (T := TX8) (N := 39) hx hb hts iX8 tyX8 tyX8_ok nmX8 hown hK hP hD hS 0 rfl rfl 3 (by decide) (hts (.fieldLink RX8 21 "BatchTransferModel" "tapeLen" "I") (by decide +kernel)) (fun _ h9 => h9) rfl (by decide +kernel) rfl rfl (Nat.le_of_ble_eq_true rfl) dX8_feed_104 (fun H locs hP hD hS => ?_)
  have hP : va_P (dC, dI) vwCl [(mo, .inr (6, [.int 0, .ref m1, .ref m2, .int 3, .int 0, .ref m5, .ref m6, .ref m7, .ref m8, .int 0, .ref m10, .ref m11, .ref m12, .ref m13, .ref m14, .int 0, .int 0, .int 0, .ref m18, .int 0, .int 0, .int 0, .int 0, .int 0, .int 0, .int 0, .int 0, .int 0, .int 0, .int 0, .int 0, .int 0, .int 0, .int 0, .ref m34, .ref m35, .ref m36, .ref m37, .int 0])), (m2, .inl (k2, 3100, .inl f_40))] H := hP
  have hD : va_D A [(mo, .inr (6, [.int 0, .ref m1, .ref m2, .int 3, .int 0, .ref m5, .ref m6, .ref m7, .ref m8, .int 0, .ref m10, .ref m11, .ref m12, .ref m13, .ref m14, .int 0, .int 0, .int 0, .ref m18, .int 0, .int 0, .int 0, .int 0, .int 0, .int 0, .int 0, .int 0, .int 0, .int 0, .int 0, .int 0, .int 0, .int 0, .int 0, .ref m34, .ref m35, .ref m36, .ref m37, .int 0])), (m2, .inl (k2, 3100, .inl f_40))] := hD
  refine lv_iinc (v := 3) (lv' := [(6, .int 3), (7, .int n0), (0, .ref mo), (1, .int n0), (2, .int n1), (3, .int n2), (4, .int n3), (5, .int n4)]) hx hb dX8_feed_107 hl (k := 1) rfl (by decide) (by decide) rfl (fun ls hl => ?_)
  refine lv_goto (tgt := 23) hx hb dX8_feed_110 (by decide) ?_
  refine lv_iload hx hb dX8_feed_23 (lv_at hl 0 rfl) ?_
  refine lv_bipush (v := 20) hx hb dX8_feed_25 (by decide) ?_
  refine lv_icmp_ge (tgt := 113) hx hb dX8_feed_27 (by decide) (fun c_42 => absurd c_42 (by decide)) (fun c_42 => ?_)
  refine lv_iload_n hx hb dX8_feed_30 rfl (lv_at hl 3 rfl) ?_
  refine lv_istore (lv' := [(7, .int n0), (6, .int 3), (0, .ref mo), (1, .int n0), (2, .int n1), (3, .int n2), (4, .int n3), (5, .int n4)]) hx hb dX8_feed_31 hl (by decide) rfl (fun ls hl => ?_)
  refine lv_iload hx hb dX8_feed_33 (lv_at hl 1 rfl) ?_
  refine lv_iconst (v := 4) hx hb dX8_feed_35 (by decide) ?_
  refine lv_icmp_lt (tgt := 42) hx hb dX8_feed_36 (by decide) (fun c_43 => ?_) (fun c_43 => absurd (by decide) c_43)
  refine lv_iload hx hb dX8_feed_42 (lv_at hl 1 rfl) ?_
  refine lv_bipush (v := 8) hx hb dX8_feed_44 (by decide) ?_
  refine lv_icmp_lt (tgt := 52) hx hb dX8_feed_46 (by decide) (fun c_44 => ?_) (fun c_44 => absurd (by decide) c_44)
  refine lv_iload hx hb dX8_feed_52 (lv_at hl 1 rfl) ?_
  refine lv_bipush (v := 12) hx hb dX8_feed_54 (by decide) ?_
  refine lv_icmp_lt (tgt := 63) hx hb dX8_feed_56 (by decide) (fun c_45 => ?_) (fun c_45 => absurd (by decide) c_45)
  refine lv_iload hx hb dX8_feed_63 (lv_at hl 1 rfl) ?_
  refine lv_bipush (v := 16) hx hb dX8_feed_65 (by decide) ?_
  refine lv_icmp_lt (tgt := 74) hx hb dX8_feed_67 (by decide) (fun c_46 => ?_) (fun c_46 => absurd (by decide) c_46)
  refine lv_aload_n hx hb dX8_feed_74 rfl (lv_at hl 2 rfl) ?_
  refine va_get (D := (dC, dI)) (ci := 6) (v := .ref m2) (C := RX8) (T := TX8) (N := 39) hx hb hts iX8 hown hK hP 0 rfl rfl 2 (by decide) (hts (.fieldLink RX8 17 "BatchTransferModel" "tape" "[B") (by decide +kernel)) (fun _ h9 => h9) rfl dX8_feed_75 ?_
  refine lv_aload_n hx hb dX8_feed_78 rfl (lv_at hl 2 rfl) ?_
  refine va_get (D := (dC, dI)) (ci := 6) (v := .int 3) (C := RX8) (T := TX8) (N := 39) hx hb hts iX8 hown hK hP 0 rfl rfl 3 (by decide) (hts (.fieldLink RX8 21 "BatchTransferModel" "tapeLen" "I") (by decide +kernel)) (fun _ h9 => h9) rfl dX8_feed_79 ?_
  refine lv_iload hx hb dX8_feed_82 (lv_at hl 0 rfl) ?_
  refine lv_bipush (v := 24) hx hb dX8_feed_84 (by decide) ?_
  refine lv_bipush (v := 8) hx hb dX8_feed_86 (by decide) ?_
  refine lv_iload hx hb dX8_feed_88 (lv_at hl 1 rfl) ?_
  refine lv_iconst (v := 3) hx hb dX8_feed_90 (by decide) ?_
  refine lv_iand hx hb dX8_feed_91 ?_
  refine lv_topi (fun x_47 ex_47 => ?_)
  obtain rfl : x_47 = 3 := ex_47.trans (by decide)
  refine lv_imul hx hb dX8_feed_92 ?_
  refine lv_topi (fun x_48 ex_48 => ?_)
  obtain rfl : x_48 = 24 := ex_48.trans (by decide)
  refine lv_isub hx hb dX8_feed_93 ?_
  refine lv_topi (fun x_49 ex_49 => ?_)
  obtain rfl : x_49 = 0 := ex_49.trans (by decide)
  refine lv_ishr hx hb dX8_feed_94 ?_
  refine lv_topi (fun x_50 ex_50 => ?_)
  refine lv_i2b hx hb dX8_feed_95 rfl ?_
  refine lv_topi (fun x_51 ex_51 => ?_)
  have h_52 : vp_in (3) 3100 := by unfold vp_in; decide +kernel
  refine va_bast hx hb hK hP hD hS 1 0 rfl rfl h_52 dX8_feed_96 (fun H locs hP hD hS => ?_)
  obtain ⟨f_53, ef_53⟩ : ∃ g : Nat → Int32, g = upd f_40 (3 : Int32).toNatClampNeg (vp_nar .byte x_51) := ⟨_, rfl⟩
  have hP : va_P (dC, dI) vwCl [(mo, .inr (6, [.int 0, .ref m1, .ref m2, .int 3, .int 0, .ref m5, .ref m6, .ref m7, .ref m8, .int 0, .ref m10, .ref m11, .ref m12, .ref m13, .ref m14, .int 0, .int 0, .int 0, .ref m18, .int 0, .int 0, .int 0, .int 0, .int 0, .int 0, .int 0, .int 0, .int 0, .int 0, .int 0, .int 0, .int 0, .int 0, .int 0, .ref m34, .ref m35, .ref m36, .ref m37, .int 0])), (m2, .inl (k2, 3100, .inl f_53))] H := by rw [ef_53]; exact hP
  have hD : va_D A [(mo, .inr (6, [.int 0, .ref m1, .ref m2, .int 3, .int 0, .ref m5, .ref m6, .ref m7, .ref m8, .int 0, .ref m10, .ref m11, .ref m12, .ref m13, .ref m14, .int 0, .int 0, .int 0, .ref m18, .int 0, .int 0, .int 0, .int 0, .int 0, .int 0, .int 0, .int 0, .int 0, .int 0, .int 0, .int 0, .int 0, .int 0, .int 0, .ref m34, .ref m35, .ref m36, .ref m37, .int 0])), (m2, .inl (k2, 3100, .inl f_53))] := by rw [ef_53]; exact hD
  refine lv_aload_n hx hb dX8_feed_97 rfl (lv_at hl 2 rfl) ?_
  refine lv_dup hx hb dX8_feed_98 rfl ?_
  refine va_get (D := (dC, dI)) (ci := 6) (v := .int 3) (C := RX8) (T := TX8) (N := 39) hx hb hts iX8 hown hK hP 0 rfl rfl 3 (by decide) (hts (.fieldLink RX8 21 "BatchTransferModel" "tapeLen" "I") (by decide +kernel)) (fun _ h9 => h9) rfl dX8_feed_99 ?_
  refine lv_iconst (v := 1) hx hb dX8_feed_102 (by decide) ?_
  refine lv_iadd hx hb dX8_feed_103 ?_
  refine lv_topi (fun x_54 ex_54 => ?_)
  obtain rfl : x_54 = 4 := ex_54.trans (by decide)
  refine va_put (D := (dC, dI)) (ci := 6) (v := .int 4) (ty := .int) (C := RX8) (T := TX8) (N := 39) hx hb hts iX8 tyX8 tyX8_ok nmX8 hown hK hP hD hS 0 rfl rfl 3 (by decide) (hts (.fieldLink RX8 21 "BatchTransferModel" "tapeLen" "I") (by decide +kernel)) (fun _ h9 => h9) rfl (by decide +kernel) rfl rfl (Nat.le_of_ble_eq_true rfl) dX8_feed_104 (fun H locs hP hD hS => ?_)
  have hP : va_P (dC, dI) vwCl [(mo, .inr (6, [.int 0, .ref m1, .ref m2, .int 4, .int 0, .ref m5, .ref m6, .ref m7, .ref m8, .int 0, .ref m10, .ref m11, .ref m12, .ref m13, .ref m14, .int 0, .int 0, .int 0, .ref m18, .int 0, .int 0, .int 0, .int 0, .int 0, .int 0, .int 0, .int 0, .int 0, .int 0, .int 0, .int 0, .int 0, .int 0, .int 0, .ref m34, .ref m35, .ref m36, .ref m37, .int 0])), (m2, .inl (k2, 3100, .inl f_53))] H := hP
  have hD : va_D A [(mo, .inr (6, [.int 0, .ref m1, .ref m2, .int 4, .int 0, .ref m5, .ref m6, .ref m7, .ref m8, .int 0, .ref m10, .ref m11, .ref m12, .ref m13, .ref m14, .int 0, .int 0, .int 0, .ref m18, .int 0, .int 0, .int 0, .int 0, .int 0, .int 0, .int 0, .int 0, .int 0, .int 0, .int 0, .int 0, .int 0, .int 0, .int 0, .ref m34, .ref m35, .ref m36, .ref m37, .int 0])), (m2, .inl (k2, 3100, .inl f_53))] := hD
  refine lv_iinc (v := 4) (lv' := [(6, .int 4), (7, .int n0), (0, .ref mo), (1, .int n0), (2, .int n1), (3, .int n2), (4, .int n3), (5, .int n4)]) hx hb dX8_feed_107 hl (k := 1) rfl (by decide) (by decide) rfl (fun ls hl => ?_)
  refine lv_goto (tgt := 23) hx hb dX8_feed_110 (by decide) ?_
  refine lv_iload hx hb dX8_feed_23 (lv_at hl 0 rfl) ?_
  refine lv_bipush (v := 20) hx hb dX8_feed_25 (by decide) ?_
  refine lv_icmp_ge (tgt := 113) hx hb dX8_feed_27 (by decide) (fun c_55 => absurd c_55 (by decide)) (fun c_55 => ?_)
  refine lv_iload_n hx hb dX8_feed_30 rfl (lv_at hl 3 rfl) ?_
  refine lv_istore (lv' := [(7, .int n0), (6, .int 4), (0, .ref mo), (1, .int n0), (2, .int n1), (3, .int n2), (4, .int n3), (5, .int n4)]) hx hb dX8_feed_31 hl (by decide) rfl (fun ls hl => ?_)
  refine lv_iload hx hb dX8_feed_33 (lv_at hl 1 rfl) ?_
  refine lv_iconst (v := 4) hx hb dX8_feed_35 (by decide) ?_
  refine lv_icmp_lt (tgt := 42) hx hb dX8_feed_36 (by decide) (fun c_56 => absurd c_56 (by decide)) (fun c_56 => ?_)
  refine lv_iload_n hx hb dX8_feed_39 rfl (lv_at hl 4 rfl) ?_
  refine lv_istore (lv' := [(7, .int n1), (6, .int 4), (0, .ref mo), (1, .int n0), (2, .int n1), (3, .int n2), (4, .int n3), (5, .int n4)]) hx hb dX8_feed_40 hl (by decide) rfl (fun ls hl => ?_)
  refine lv_iload hx hb dX8_feed_42 (lv_at hl 1 rfl) ?_
  refine lv_bipush (v := 8) hx hb dX8_feed_44 (by decide) ?_
  refine lv_icmp_lt (tgt := 52) hx hb dX8_feed_46 (by decide) (fun c_57 => ?_) (fun c_57 => absurd (by decide) c_57)
  refine lv_iload hx hb dX8_feed_52 (lv_at hl 1 rfl) ?_
  refine lv_bipush (v := 12) hx hb dX8_feed_54 (by decide) ?_
  refine lv_icmp_lt (tgt := 63) hx hb dX8_feed_56 (by decide) (fun c_58 => ?_) (fun c_58 => absurd (by decide) c_58)
  refine lv_iload hx hb dX8_feed_63 (lv_at hl 1 rfl) ?_
  refine lv_bipush (v := 16) hx hb dX8_feed_65 (by decide) ?_
  refine lv_icmp_lt (tgt := 74) hx hb dX8_feed_67 (by decide) (fun c_59 => ?_) (fun c_59 => absurd (by decide) c_59)
  refine lv_aload_n hx hb dX8_feed_74 rfl (lv_at hl 2 rfl) ?_
  refine va_get (D := (dC, dI)) (ci := 6) (v := .ref m2) (C := RX8) (T := TX8) (N := 39) hx hb hts iX8 hown hK hP 0 rfl rfl 2 (by decide) (hts (.fieldLink RX8 17 "BatchTransferModel" "tape" "[B") (by decide +kernel)) (fun _ h9 => h9) rfl dX8_feed_75 ?_
  refine lv_aload_n hx hb dX8_feed_78 rfl (lv_at hl 2 rfl) ?_
  refine va_get (D := (dC, dI)) (ci := 6) (v := .int 4) (C := RX8) (T := TX8) (N := 39) hx hb hts iX8 hown hK hP 0 rfl rfl 3 (by decide) (hts (.fieldLink RX8 21 "BatchTransferModel" "tapeLen" "I") (by decide +kernel)) (fun _ h9 => h9) rfl dX8_feed_79 ?_
  refine lv_iload hx hb dX8_feed_82 (lv_at hl 0 rfl) ?_
  refine lv_bipush (v := 24) hx hb dX8_feed_84 (by decide) ?_
  refine lv_bipush (v := 8) hx hb dX8_feed_86 (by decide) ?_
  refine lv_iload hx hb dX8_feed_88 (lv_at hl 1 rfl) ?_
  refine lv_iconst (v := 3) hx hb dX8_feed_90 (by decide) ?_
  refine lv_iand hx hb dX8_feed_91 ?_
  refine lv_topi (fun x_60 ex_60 => ?_)
  obtain rfl : x_60 = 0 := ex_60.trans (by decide)
  refine lv_imul hx hb dX8_feed_92 ?_
  refine lv_topi (fun x_61 ex_61 => ?_)
  obtain rfl : x_61 = 0 := ex_61.trans (by decide)
  refine lv_isub hx hb dX8_feed_93 ?_
  refine lv_topi (fun x_62 ex_62 => ?_)
  obtain rfl : x_62 = 24 := ex_62.trans (by decide)
  refine lv_ishr hx hb dX8_feed_94 ?_
  refine lv_topi (fun x_63 ex_63 => ?_)
  refine lv_i2b hx hb dX8_feed_95 rfl ?_
  refine lv_topi (fun x_64 ex_64 => ?_)
  have h_65 : vp_in (4) 3100 := by unfold vp_in; decide +kernel
  refine va_bast hx hb hK hP hD hS 1 0 rfl rfl h_65 dX8_feed_96 (fun H locs hP hD hS => ?_)
  obtain ⟨f_66, ef_66⟩ : ∃ g : Nat → Int32, g = upd f_53 (4 : Int32).toNatClampNeg (vp_nar .byte x_64) := ⟨_, rfl⟩
  have hP : va_P (dC, dI) vwCl [(mo, .inr (6, [.int 0, .ref m1, .ref m2, .int 4, .int 0, .ref m5, .ref m6, .ref m7, .ref m8, .int 0, .ref m10, .ref m11, .ref m12, .ref m13, .ref m14, .int 0, .int 0, .int 0, .ref m18, .int 0, .int 0, .int 0, .int 0, .int 0, .int 0, .int 0, .int 0, .int 0, .int 0, .int 0, .int 0, .int 0, .int 0, .int 0, .ref m34, .ref m35, .ref m36, .ref m37, .int 0])), (m2, .inl (k2, 3100, .inl f_66))] H := by rw [ef_66]; exact hP
  have hD : va_D A [(mo, .inr (6, [.int 0, .ref m1, .ref m2, .int 4, .int 0, .ref m5, .ref m6, .ref m7, .ref m8, .int 0, .ref m10, .ref m11, .ref m12, .ref m13, .ref m14, .int 0, .int 0, .int 0, .ref m18, .int 0, .int 0, .int 0, .int 0, .int 0, .int 0, .int 0, .int 0, .int 0, .int 0, .int 0, .int 0, .int 0, .int 0, .int 0, .ref m34, .ref m35, .ref m36, .ref m37, .int 0])), (m2, .inl (k2, 3100, .inl f_66))] := by rw [ef_66]; exact hD
  refine lv_aload_n hx hb dX8_feed_97 rfl (lv_at hl 2 rfl) ?_
  refine lv_dup hx hb dX8_feed_98 rfl ?_
  refine va_get (D := (dC, dI)) (ci := 6) (v := .int 4) (C := RX8) (T := TX8) (N := 39) hx hb hts iX8 hown hK hP 0 rfl rfl 3 (by decide) (hts (.fieldLink RX8 21 "BatchTransferModel" "tapeLen" "I") (by decide +kernel)) (fun _ h9 => h9) rfl dX8_feed_99 ?_
  refine lv_iconst (v := 1) hx hb dX8_feed_102 (by decide) ?_
  refine lv_iadd hx hb dX8_feed_103 ?_
  refine lv_topi (fun x_67 ex_67 => ?_)
  obtain rfl : x_67 = 5 := ex_67.trans (by decide)
  refine va_put (D := (dC, dI)) (ci := 6) (v := .int 5) (ty := .int) (C := RX8) (T := TX8) (N := 39) hx hb hts iX8 tyX8 tyX8_ok nmX8 hown hK hP hD hS 0 rfl rfl 3 (by decide) (hts (.fieldLink RX8 21 "BatchTransferModel" "tapeLen" "I") (by decide +kernel)) (fun _ h9 => h9) rfl (by decide +kernel) rfl rfl (Nat.le_of_ble_eq_true rfl) dX8_feed_104 (fun H locs hP hD hS => ?_)
  have hP : va_P (dC, dI) vwCl [(mo, .inr (6, [.int 0, .ref m1, .ref m2, .int 5, .int 0, .ref m5, .ref m6, .ref m7, .ref m8, .int 0, .ref m10, .ref m11, .ref m12, .ref m13, .ref m14, .int 0, .int 0, .int 0, .ref m18, .int 0, .int 0, .int 0, .int 0, .int 0, .int 0, .int 0, .int 0, .int 0, .int 0, .int 0, .int 0, .int 0, .int 0, .int 0, .ref m34, .ref m35, .ref m36, .ref m37, .int 0])), (m2, .inl (k2, 3100, .inl f_66))] H := hP
  have hD : va_D A [(mo, .inr (6, [.int 0, .ref m1, .ref m2, .int 5, .int 0, .ref m5, .ref m6, .ref m7, .ref m8, .int 0, .ref m10, .ref m11, .ref m12, .ref m13, .ref m14, .int 0, .int 0, .int 0, .ref m18, .int 0, .int 0, .int 0, .int 0, .int 0, .int 0, .int 0, .int 0, .int 0, .int 0, .int 0, .int 0, .int 0, .int 0, .int 0, .ref m34, .ref m35, .ref m36, .ref m37, .int 0])), (m2, .inl (k2, 3100, .inl f_66))] := hD
  refine lv_iinc (v := 5) (lv' := [(6, .int 5), (7, .int n1), (0, .ref mo), (1, .int n0), (2, .int n1), (3, .int n2), (4, .int n3), (5, .int n4)]) hx hb dX8_feed_107 hl (k := 1) rfl (by decide) (by decide) rfl (fun ls hl => ?_)
  refine lv_goto (tgt := 23) hx hb dX8_feed_110 (by decide) ?_
  refine lv_iload hx hb dX8_feed_23 (lv_at hl 0 rfl) ?_
  refine lv_bipush (v := 20) hx hb dX8_feed_25 (by decide) ?_
  refine lv_icmp_ge (tgt := 113) hx hb dX8_feed_27 (by decide) (fun c_68 => absurd c_68 (by decide)) (fun c_68 => ?_)
  refine lv_iload_n hx hb dX8_feed_30 rfl (lv_at hl 3 rfl) ?_
  refine lv_istore (lv' := [(7, .int n0), (6, .int 5), (0, .ref mo), (1, .int n0), (2, .int n1), (3, .int n2), (4, .int n3), (5, .int n4)]) hx hb dX8_feed_31 hl (by decide) rfl (fun ls hl => ?_)
  refine lv_iload hx hb dX8_feed_33 (lv_at hl 1 rfl) ?_
  refine lv_iconst (v := 4) hx hb dX8_feed_35 (by decide) ?_
  refine lv_icmp_lt (tgt := 42) hx hb dX8_feed_36 (by decide) (fun c_69 => absurd c_69 (by decide)) (fun c_69 => ?_)
  refine lv_iload_n hx hb dX8_feed_39 rfl (lv_at hl 4 rfl) ?_
  refine lv_istore (lv' := [(7, .int n1), (6, .int 5), (0, .ref mo), (1, .int n0), (2, .int n1), (3, .int n2), (4, .int n3), (5, .int n4)]) hx hb dX8_feed_40 hl (by decide) rfl (fun ls hl => ?_)
  refine lv_iload hx hb dX8_feed_42 (lv_at hl 1 rfl) ?_
  refine lv_bipush (v := 8) hx hb dX8_feed_44 (by decide) ?_
  refine lv_icmp_lt (tgt := 52) hx hb dX8_feed_46 (by decide) (fun c_70 => ?_) (fun c_70 => absurd (by decide) c_70)
  refine lv_iload hx hb dX8_feed_52 (lv_at hl 1 rfl) ?_
  refine lv_bipush (v := 12) hx hb dX8_feed_54 (by decide) ?_
  refine lv_icmp_lt (tgt := 63) hx hb dX8_feed_56 (by decide) (fun c_71 => ?_) (fun c_71 => absurd (by decide) c_71)
  refine lv_iload hx hb dX8_feed_63 (lv_at hl 1 rfl) ?_
  refine lv_bipush (v := 16) hx hb dX8_feed_65 (by decide) ?_
  refine lv_icmp_lt (tgt := 74) hx hb dX8_feed_67 (by decide) (fun c_72 => ?_) (fun c_72 => absurd (by decide) c_72)
  refine lv_aload_n hx hb dX8_feed_74 rfl (lv_at hl 2 rfl) ?_
  refine va_get (D := (dC, dI)) (ci := 6) (v := .ref m2) (C := RX8) (T := TX8) (N := 39) hx hb hts iX8 hown hK hP 0 rfl rfl 2 (by decide) (hts (.fieldLink RX8 17 "BatchTransferModel" "tape" "[B") (by decide +kernel)) (fun _ h9 => h9) rfl dX8_feed_75 ?_
  refine lv_aload_n hx hb dX8_feed_78 rfl (lv_at hl 2 rfl) ?_
  refine va_get (D := (dC, dI)) (ci := 6) (v := .int 5) (C := RX8) (T := TX8) (N := 39) hx hb hts iX8 hown hK hP 0 rfl rfl 3 (by decide) (hts (.fieldLink RX8 21 "BatchTransferModel" "tapeLen" "I") (by decide +kernel)) (fun _ h9 => h9) rfl dX8_feed_79 ?_
  refine lv_iload hx hb dX8_feed_82 (lv_at hl 0 rfl) ?_
  refine lv_bipush (v := 24) hx hb dX8_feed_84 (by decide) ?_
  refine lv_bipush (v := 8) hx hb dX8_feed_86 (by decide) ?_
  refine lv_iload hx hb dX8_feed_88 (lv_at hl 1 rfl) ?_
  refine lv_iconst (v := 3) hx hb dX8_feed_90 (by decide) ?_
  refine lv_iand hx hb dX8_feed_91 ?_
  refine lv_topi (fun x_73 ex_73 => ?_)
  obtain rfl : x_73 = 1 := ex_73.trans (by decide)
  refine lv_imul hx hb dX8_feed_92 ?_
  refine lv_topi (fun x_74 ex_74 => ?_)
  obtain rfl : x_74 = 8 := ex_74.trans (by decide)
  refine lv_isub hx hb dX8_feed_93 ?_
  refine lv_topi (fun x_75 ex_75 => ?_)
  obtain rfl : x_75 = 16 := ex_75.trans (by decide)
  refine lv_ishr hx hb dX8_feed_94 ?_
  refine lv_topi (fun x_76 ex_76 => ?_)
  refine lv_i2b hx hb dX8_feed_95 rfl ?_
  refine lv_topi (fun x_77 ex_77 => ?_)
  have h_78 : vp_in (5) 3100 := by unfold vp_in; decide +kernel
  refine va_bast hx hb hK hP hD hS 1 0 rfl rfl h_78 dX8_feed_96 (fun H locs hP hD hS => ?_)
  obtain ⟨f_79, ef_79⟩ : ∃ g : Nat → Int32, g = upd f_66 (5 : Int32).toNatClampNeg (vp_nar .byte x_77) := ⟨_, rfl⟩
  have hP : va_P (dC, dI) vwCl [(mo, .inr (6, [.int 0, .ref m1, .ref m2, .int 5, .int 0, .ref m5, .ref m6, .ref m7, .ref m8, .int 0, .ref m10, .ref m11, .ref m12, .ref m13, .ref m14, .int 0, .int 0, .int 0, .ref m18, .int 0, .int 0, .int 0, .int 0, .int 0, .int 0, .int 0, .int 0, .int 0, .int 0, .int 0, .int 0, .int 0, .int 0, .int 0, .ref m34, .ref m35, .ref m36, .ref m37, .int 0])), (m2, .inl (k2, 3100, .inl f_79))] H := by rw [ef_79]; exact hP
  have hD : va_D A [(mo, .inr (6, [.int 0, .ref m1, .ref m2, .int 5, .int 0, .ref m5, .ref m6, .ref m7, .ref m8, .int 0, .ref m10, .ref m11, .ref m12, .ref m13, .ref m14, .int 0, .int 0, .int 0, .ref m18, .int 0, .int 0, .int 0, .int 0, .int 0, .int 0, .int 0, .int 0, .int 0, .int 0, .int 0, .int 0, .int 0, .int 0, .int 0, .ref m34, .ref m35, .ref m36, .ref m37, .int 0])), (m2, .inl (k2, 3100, .inl f_79))] := by rw [ef_79]; exact hD
  refine lv_aload_n hx hb dX8_feed_97 rfl (lv_at hl 2 rfl) ?_
  refine lv_dup hx hb dX8_feed_98 rfl ?_
  refine va_get (D := (dC, dI)) (ci := 6) (v := .int 5) (C := RX8) (T := TX8) (N := 39) hx hb hts iX8 hown hK hP 0 rfl rfl 3 (by decide) (hts (.fieldLink RX8 21 "BatchTransferModel" "tapeLen" "I") (by decide +kernel)) (fun _ h9 => h9) rfl dX8_feed_99 ?_
  refine lv_iconst (v := 1) hx hb dX8_feed_102 (by decide) ?_
  refine lv_iadd hx hb dX8_feed_103 ?_
  refine lv_topi (fun x_80 ex_80 => ?_)
  obtain rfl : x_80 = 6 := ex_80.trans (by decide)
  refine va_put (D := (dC, dI)) (ci := 6) (v := .int 6) (ty := .int) (C := RX8) (T := TX8) (N := 39) hx hb hts iX8 tyX8 tyX8_ok nmX8 hown hK hP hD hS 0 rfl rfl 3 (by decide) (hts (.fieldLink RX8 21 "BatchTransferModel" "tapeLen" "I") (by decide +kernel)) (fun _ h9 => h9) rfl (by decide +kernel) rfl rfl (Nat.le_of_ble_eq_true rfl) dX8_feed_104 (fun H locs hP hD hS => ?_)
  have hP : va_P (dC, dI) vwCl [(mo, .inr (6, [.int 0, .ref m1, .ref m2, .int 6, .int 0, .ref m5, .ref m6, .ref m7, .ref m8, .int 0, .ref m10, .ref m11, .ref m12, .ref m13, .ref m14, .int 0, .int 0, .int 0, .ref m18, .int 0, .int 0, .int 0, .int 0, .int 0, .int 0, .int 0, .int 0, .int 0, .int 0, .int 0, .int 0, .int 0, .int 0, .int 0, .ref m34, .ref m35, .ref m36, .ref m37, .int 0])), (m2, .inl (k2, 3100, .inl f_79))] H := hP
  have hD : va_D A [(mo, .inr (6, [.int 0, .ref m1, .ref m2, .int 6, .int 0, .ref m5, .ref m6, .ref m7, .ref m8, .int 0, .ref m10, .ref m11, .ref m12, .ref m13, .ref m14, .int 0, .int 0, .int 0, .ref m18, .int 0, .int 0, .int 0, .int 0, .int 0, .int 0, .int 0, .int 0, .int 0, .int 0, .int 0, .int 0, .int 0, .int 0, .int 0, .ref m34, .ref m35, .ref m36, .ref m37, .int 0])), (m2, .inl (k2, 3100, .inl f_79))] := hD
  refine lv_iinc (v := 6) (lv' := [(6, .int 6), (7, .int n1), (0, .ref mo), (1, .int n0), (2, .int n1), (3, .int n2), (4, .int n3), (5, .int n4)]) hx hb dX8_feed_107 hl (k := 1) rfl (by decide) (by decide) rfl (fun ls hl => ?_)
  refine lv_goto (tgt := 23) hx hb dX8_feed_110 (by decide) ?_
  refine lv_iload hx hb dX8_feed_23 (lv_at hl 0 rfl) ?_
  refine lv_bipush (v := 20) hx hb dX8_feed_25 (by decide) ?_
  refine lv_icmp_ge (tgt := 113) hx hb dX8_feed_27 (by decide) (fun c_81 => absurd c_81 (by decide)) (fun c_81 => ?_)
  refine lv_iload_n hx hb dX8_feed_30 rfl (lv_at hl 3 rfl) ?_
  refine lv_istore (lv' := [(7, .int n0), (6, .int 6), (0, .ref mo), (1, .int n0), (2, .int n1), (3, .int n2), (4, .int n3), (5, .int n4)]) hx hb dX8_feed_31 hl (by decide) rfl (fun ls hl => ?_)
  refine lv_iload hx hb dX8_feed_33 (lv_at hl 1 rfl) ?_
  refine lv_iconst (v := 4) hx hb dX8_feed_35 (by decide) ?_
  refine lv_icmp_lt (tgt := 42) hx hb dX8_feed_36 (by decide) (fun c_82 => absurd c_82 (by decide)) (fun c_82 => ?_)
  refine lv_iload_n hx hb dX8_feed_39 rfl (lv_at hl 4 rfl) ?_
  refine lv_istore (lv' := [(7, .int n1), (6, .int 6), (0, .ref mo), (1, .int n0), (2, .int n1), (3, .int n2), (4, .int n3), (5, .int n4)]) hx hb dX8_feed_40 hl (by decide) rfl (fun ls hl => ?_)
  refine lv_iload hx hb dX8_feed_42 (lv_at hl 1 rfl) ?_
  refine lv_bipush (v := 8) hx hb dX8_feed_44 (by decide) ?_
  refine lv_icmp_lt (tgt := 52) hx hb dX8_feed_46 (by decide) (fun c_83 => ?_) (fun c_83 => absurd (by decide) c_83)
  refine lv_iload hx hb dX8_feed_52 (lv_at hl 1 rfl) ?_
  refine lv_bipush (v := 12) hx hb dX8_feed_54 (by decide) ?_
  refine lv_icmp_lt (tgt := 63) hx hb dX8_feed_56 (by decide) (fun c_84 => ?_) (fun c_84 => absurd (by decide) c_84)
  refine lv_iload hx hb dX8_feed_63 (lv_at hl 1 rfl) ?_
  refine lv_bipush (v := 16) hx hb dX8_feed_65 (by decide) ?_
  refine lv_icmp_lt (tgt := 74) hx hb dX8_feed_67 (by decide) (fun c_85 => ?_) (fun c_85 => absurd (by decide) c_85)
  refine lv_aload_n hx hb dX8_feed_74 rfl (lv_at hl 2 rfl) ?_
  refine va_get (D := (dC, dI)) (ci := 6) (v := .ref m2) (C := RX8) (T := TX8) (N := 39) hx hb hts iX8 hown hK hP 0 rfl rfl 2 (by decide) (hts (.fieldLink RX8 17 "BatchTransferModel" "tape" "[B") (by decide +kernel)) (fun _ h9 => h9) rfl dX8_feed_75 ?_
  refine lv_aload_n hx hb dX8_feed_78 rfl (lv_at hl 2 rfl) ?_
  refine va_get (D := (dC, dI)) (ci := 6) (v := .int 6) (C := RX8) (T := TX8) (N := 39) hx hb hts iX8 hown hK hP 0 rfl rfl 3 (by decide) (hts (.fieldLink RX8 21 "BatchTransferModel" "tapeLen" "I") (by decide +kernel)) (fun _ h9 => h9) rfl dX8_feed_79 ?_
  refine lv_iload hx hb dX8_feed_82 (lv_at hl 0 rfl) ?_
  refine lv_bipush (v := 24) hx hb dX8_feed_84 (by decide) ?_
  refine lv_bipush (v := 8) hx hb dX8_feed_86 (by decide) ?_
  refine lv_iload hx hb dX8_feed_88 (lv_at hl 1 rfl) ?_
  refine lv_iconst (v := 3) hx hb dX8_feed_90 (by decide) ?_
  refine lv_iand hx hb dX8_feed_91 ?_
  refine lv_topi (fun x_86 ex_86 => ?_)
  obtain rfl : x_86 = 2 := ex_86.trans (by decide)
  refine lv_imul hx hb dX8_feed_92 ?_
  refine lv_topi (fun x_87 ex_87 => ?_)
  obtain rfl : x_87 = 16 := ex_87.trans (by decide)
  refine lv_isub hx hb dX8_feed_93 ?_
  refine lv_topi (fun x_88 ex_88 => ?_)
  obtain rfl : x_88 = 8 := ex_88.trans (by decide)
  refine lv_ishr hx hb dX8_feed_94 ?_
  refine lv_topi (fun x_89 ex_89 => ?_)
  refine lv_i2b hx hb dX8_feed_95 rfl ?_
  refine lv_topi (fun x_90 ex_90 => ?_)
  have h_91 : vp_in (6) 3100 := by unfold vp_in; decide +kernel
  refine va_bast hx hb hK hP hD hS 1 0 rfl rfl h_91 dX8_feed_96 (fun H locs hP hD hS => ?_)
  obtain ⟨f_92, ef_92⟩ : ∃ g : Nat → Int32, g = upd f_79 (6 : Int32).toNatClampNeg (vp_nar .byte x_90) := ⟨_, rfl⟩
  have hP : va_P (dC, dI) vwCl [(mo, .inr (6, [.int 0, .ref m1, .ref m2, .int 6, .int 0, .ref m5, .ref m6, .ref m7, .ref m8, .int 0, .ref m10, .ref m11, .ref m12, .ref m13, .ref m14, .int 0, .int 0, .int 0, .ref m18, .int 0, .int 0, .int 0, .int 0, .int 0, .int 0, .int 0, .int 0, .int 0, .int 0, .int 0, .int 0, .int 0, .int 0, .int 0, .ref m34, .ref m35, .ref m36, .ref m37, .int 0])), (m2, .inl (k2, 3100, .inl f_92))] H := by rw [ef_92]; exact hP
  have hD : va_D A [(mo, .inr (6, [.int 0, .ref m1, .ref m2, .int 6, .int 0, .ref m5, .ref m6, .ref m7, .ref m8, .int 0, .ref m10, .ref m11, .ref m12, .ref m13, .ref m14, .int 0, .int 0, .int 0, .ref m18, .int 0, .int 0, .int 0, .int 0, .int 0, .int 0, .int 0, .int 0, .int 0, .int 0, .int 0, .int 0, .int 0, .int 0, .int 0, .ref m34, .ref m35, .ref m36, .ref m37, .int 0])), (m2, .inl (k2, 3100, .inl f_92))] := by rw [ef_92]; exact hD
  refine lv_aload_n hx hb dX8_feed_97 rfl (lv_at hl 2 rfl) ?_
  refine lv_dup hx hb dX8_feed_98 rfl ?_
  refine va_get (D := (dC, dI)) (ci := 6) (v := .int 6) (C := RX8) (T := TX8) (N := 39) hx hb hts iX8 hown hK hP 0 rfl rfl 3 (by decide) (hts (.fieldLink RX8 21 "BatchTransferModel" "tapeLen" "I") (by decide +kernel)) (fun _ h9 => h9) rfl dX8_feed_99 ?_
  refine lv_iconst (v := 1) hx hb dX8_feed_102 (by decide) ?_
  refine lv_iadd hx hb dX8_feed_103 ?_
  refine lv_topi (fun x_93 ex_93 => ?_)
  obtain rfl : x_93 = 7 := ex_93.trans (by decide)
  refine va_put (D := (dC, dI)) (ci := 6) (v := .int 7) (ty := .int) (C := RX8) (T := TX8) (N := 39) hx hb hts iX8 tyX8 tyX8_ok nmX8 hown hK hP hD hS 0 rfl rfl 3 (by decide) (hts (.fieldLink RX8 21 "BatchTransferModel" "tapeLen" "I") (by decide +kernel)) (fun _ h9 => h9) rfl (by decide +kernel) rfl rfl (Nat.le_of_ble_eq_true rfl) dX8_feed_104 (fun H locs hP hD hS => ?_)
  have hP : va_P (dC, dI) vwCl [(mo, .inr (6, [.int 0, .ref m1, .ref m2, .int 7, .int 0, .ref m5, .ref m6, .ref m7, .ref m8, .int 0, .ref m10, .ref m11, .ref m12, .ref m13, .ref m14, .int 0, .int 0, .int 0, .ref m18, .int 0, .int 0, .int 0, .int 0, .int 0, .int 0, .int 0, .int 0, .int 0, .int 0, .int 0, .int 0, .int 0, .int 0, .int 0, .ref m34, .ref m35, .ref m36, .ref m37, .int 0])), (m2, .inl (k2, 3100, .inl f_92))] H := hP
  have hD : va_D A [(mo, .inr (6, [.int 0, .ref m1, .ref m2, .int 7, .int 0, .ref m5, .ref m6, .ref m7, .ref m8, .int 0, .ref m10, .ref m11, .ref m12, .ref m13, .ref m14, .int 0, .int 0, .int 0, .ref m18, .int 0, .int 0, .int 0, .int 0, .int 0, .int 0, .int 0, .int 0, .int 0, .int 0, .int 0, .int 0, .int 0, .int 0, .int 0, .ref m34, .ref m35, .ref m36, .ref m37, .int 0])), (m2, .inl (k2, 3100, .inl f_92))] := hD
  refine lv_iinc (v := 7) (lv' := [(6, .int 7), (7, .int n1), (0, .ref mo), (1, .int n0), (2, .int n1), (3, .int n2), (4, .int n3), (5, .int n4)]) hx hb dX8_feed_107 hl (k := 1) rfl (by decide) (by decide) rfl (fun ls hl => ?_)
  refine lv_goto (tgt := 23) hx hb dX8_feed_110 (by decide) ?_
  refine lv_iload hx hb dX8_feed_23 (lv_at hl 0 rfl) ?_
  refine lv_bipush (v := 20) hx hb dX8_feed_25 (by decide) ?_
  refine lv_icmp_ge (tgt := 113) hx hb dX8_feed_27 (by decide) (fun c_94 => absurd c_94 (by decide)) (fun c_94 => ?_)
  refine lv_iload_n hx hb dX8_feed_30 rfl (lv_at hl 3 rfl) ?_
  refine lv_istore (lv' := [(7, .int n0), (6, .int 7), (0, .ref mo), (1, .int n0), (2, .int n1), (3, .int n2), (4, .int n3), (5, .int n4)]) hx hb dX8_feed_31 hl (by decide) rfl (fun ls hl => ?_)
  refine lv_iload hx hb dX8_feed_33 (lv_at hl 1 rfl) ?_
  refine lv_iconst (v := 4) hx hb dX8_feed_35 (by decide) ?_
  refine lv_icmp_lt (tgt := 42) hx hb dX8_feed_36 (by decide) (fun c_95 => absurd c_95 (by decide)) (fun c_95 => ?_)
  refine lv_iload_n hx hb dX8_feed_39 rfl (lv_at hl 4 rfl) ?_
  refine lv_istore (lv' := [(7, .int n1), (6, .int 7), (0, .ref mo), (1, .int n0), (2, .int n1), (3, .int n2), (4, .int n3), (5, .int n4)]) hx hb dX8_feed_40 hl (by decide) rfl (fun ls hl => ?_)
  refine lv_iload hx hb dX8_feed_42 (lv_at hl 1 rfl) ?_
  refine lv_bipush (v := 8) hx hb dX8_feed_44 (by decide) ?_
  refine lv_icmp_lt (tgt := 52) hx hb dX8_feed_46 (by decide) (fun c_96 => ?_) (fun c_96 => absurd (by decide) c_96)
  refine lv_iload hx hb dX8_feed_52 (lv_at hl 1 rfl) ?_
  refine lv_bipush (v := 12) hx hb dX8_feed_54 (by decide) ?_
  refine lv_icmp_lt (tgt := 63) hx hb dX8_feed_56 (by decide) (fun c_97 => ?_) (fun c_97 => absurd (by decide) c_97)
  refine lv_iload hx hb dX8_feed_63 (lv_at hl 1 rfl) ?_
  refine lv_bipush (v := 16) hx hb dX8_feed_65 (by decide) ?_
  refine lv_icmp_lt (tgt := 74) hx hb dX8_feed_67 (by decide) (fun c_98 => ?_) (fun c_98 => absurd (by decide) c_98)
  refine lv_aload_n hx hb dX8_feed_74 rfl (lv_at hl 2 rfl) ?_
  refine va_get (D := (dC, dI)) (ci := 6) (v := .ref m2) (C := RX8) (T := TX8) (N := 39) hx hb hts iX8 hown hK hP 0 rfl rfl 2 (by decide) (hts (.fieldLink RX8 17 "BatchTransferModel" "tape" "[B") (by decide +kernel)) (fun _ h9 => h9) rfl dX8_feed_75 ?_
  refine lv_aload_n hx hb dX8_feed_78 rfl (lv_at hl 2 rfl) ?_
  refine va_get (D := (dC, dI)) (ci := 6) (v := .int 7) (C := RX8) (T := TX8) (N := 39) hx hb hts iX8 hown hK hP 0 rfl rfl 3 (by decide) (hts (.fieldLink RX8 21 "BatchTransferModel" "tapeLen" "I") (by decide +kernel)) (fun _ h9 => h9) rfl dX8_feed_79 ?_
  refine lv_iload hx hb dX8_feed_82 (lv_at hl 0 rfl) ?_
  refine lv_bipush (v := 24) hx hb dX8_feed_84 (by decide) ?_
  refine lv_bipush (v := 8) hx hb dX8_feed_86 (by decide) ?_
  refine lv_iload hx hb dX8_feed_88 (lv_at hl 1 rfl) ?_
  refine lv_iconst (v := 3) hx hb dX8_feed_90 (by decide) ?_
  refine lv_iand hx hb dX8_feed_91 ?_
  refine lv_topi (fun x_99 ex_99 => ?_)
  obtain rfl : x_99 = 3 := ex_99.trans (by decide)
  refine lv_imul hx hb dX8_feed_92 ?_
  refine lv_topi (fun x_100 ex_100 => ?_)
  obtain rfl : x_100 = 24 := ex_100.trans (by decide)
  refine lv_isub hx hb dX8_feed_93 ?_
  refine lv_topi (fun x_101 ex_101 => ?_)
  obtain rfl : x_101 = 0 := ex_101.trans (by decide)
  refine lv_ishr hx hb dX8_feed_94 ?_
  refine lv_topi (fun x_102 ex_102 => ?_)
  refine lv_i2b hx hb dX8_feed_95 rfl ?_
  refine lv_topi (fun x_103 ex_103 => ?_)
  have h_104 : vp_in (7) 3100 := by unfold vp_in; decide +kernel
  refine va_bast hx hb hK hP hD hS 1 0 rfl rfl h_104 dX8_feed_96 (fun H locs hP hD hS => ?_)
  obtain ⟨f_105, ef_105⟩ : ∃ g : Nat → Int32, g = upd f_92 (7 : Int32).toNatClampNeg (vp_nar .byte x_103) := ⟨_, rfl⟩
  have hP : va_P (dC, dI) vwCl [(mo, .inr (6, [.int 0, .ref m1, .ref m2, .int 7, .int 0, .ref m5, .ref m6, .ref m7, .ref m8, .int 0, .ref m10, .ref m11, .ref m12, .ref m13, .ref m14, .int 0, .int 0, .int 0, .ref m18, .int 0, .int 0, .int 0, .int 0, .int 0, .int 0, .int 0, .int 0, .int 0, .int 0, .int 0, .int 0, .int 0, .int 0, .int 0, .ref m34, .ref m35, .ref m36, .ref m37, .int 0])), (m2, .inl (k2, 3100, .inl f_105))] H := by rw [ef_105]; exact hP
  have hD : va_D A [(mo, .inr (6, [.int 0, .ref m1, .ref m2, .int 7, .int 0, .ref m5, .ref m6, .ref m7, .ref m8, .int 0, .ref m10, .ref m11, .ref m12, .ref m13, .ref m14, .int 0, .int 0, .int 0, .ref m18, .int 0, .int 0, .int 0, .int 0, .int 0, .int 0, .int 0, .int 0, .int 0, .int 0, .int 0, .int 0, .int 0, .int 0, .int 0, .ref m34, .ref m35, .ref m36, .ref m37, .int 0])), (m2, .inl (k2, 3100, .inl f_105))] := by rw [ef_105]; exact hD
  refine lv_aload_n hx hb dX8_feed_97 rfl (lv_at hl 2 rfl) ?_
  refine lv_dup hx hb dX8_feed_98 rfl ?_
  refine va_get (D := (dC, dI)) (ci := 6) (v := .int 7) (C := RX8) (T := TX8) (N := 39) hx hb hts iX8 hown hK hP 0 rfl rfl 3 (by decide) (hts (.fieldLink RX8 21 "BatchTransferModel" "tapeLen" "I") (by decide +kernel)) (fun _ h9 => h9) rfl dX8_feed_99 ?_
  refine lv_iconst (v := 1) hx hb dX8_feed_102 (by decide) ?_
  refine lv_iadd hx hb dX8_feed_103 ?_
  refine lv_topi (fun x_106 ex_106 => ?_)
  obtain rfl : x_106 = 8 := ex_106.trans (by decide)
  refine va_put (D := (dC, dI)) (ci := 6) (v := .int 8) (ty := .int) (C := RX8) (T := TX8) (N := 39) hx hb hts iX8 tyX8 tyX8_ok nmX8 hown hK hP hD hS 0 rfl rfl 3 (by decide) (hts (.fieldLink RX8 21 "BatchTransferModel" "tapeLen" "I") (by decide +kernel)) (fun _ h9 => h9) rfl (by decide +kernel) rfl rfl (Nat.le_of_ble_eq_true rfl) dX8_feed_104 (fun H locs hP hD hS => ?_)
  have hP : va_P (dC, dI) vwCl [(mo, .inr (6, [.int 0, .ref m1, .ref m2, .int 8, .int 0, .ref m5, .ref m6, .ref m7, .ref m8, .int 0, .ref m10, .ref m11, .ref m12, .ref m13, .ref m14, .int 0, .int 0, .int 0, .ref m18, .int 0, .int 0, .int 0, .int 0, .int 0, .int 0, .int 0, .int 0, .int 0, .int 0, .int 0, .int 0, .int 0, .int 0, .int 0, .ref m34, .ref m35, .ref m36, .ref m37, .int 0])), (m2, .inl (k2, 3100, .inl f_105))] H := hP
  have hD : va_D A [(mo, .inr (6, [.int 0, .ref m1, .ref m2, .int 8, .int 0, .ref m5, .ref m6, .ref m7, .ref m8, .int 0, .ref m10, .ref m11, .ref m12, .ref m13, .ref m14, .int 0, .int 0, .int 0, .ref m18, .int 0, .int 0, .int 0, .int 0, .int 0, .int 0, .int 0, .int 0, .int 0, .int 0, .int 0, .int 0, .int 0, .int 0, .int 0, .ref m34, .ref m35, .ref m36, .ref m37, .int 0])), (m2, .inl (k2, 3100, .inl f_105))] := hD
  refine lv_iinc (v := 8) (lv' := [(6, .int 8), (7, .int n1), (0, .ref mo), (1, .int n0), (2, .int n1), (3, .int n2), (4, .int n3), (5, .int n4)]) hx hb dX8_feed_107 hl (k := 1) rfl (by decide) (by decide) rfl (fun ls hl => ?_)
  refine lv_goto (tgt := 23) hx hb dX8_feed_110 (by decide) ?_
  refine lv_iload hx hb dX8_feed_23 (lv_at hl 0 rfl) ?_
  refine lv_bipush (v := 20) hx hb dX8_feed_25 (by decide) ?_
  refine lv_icmp_ge (tgt := 113) hx hb dX8_feed_27 (by decide) (fun c_107 => absurd c_107 (by decide)) (fun c_107 => ?_)
  refine lv_iload_n hx hb dX8_feed_30 rfl (lv_at hl 3 rfl) ?_
  refine lv_istore (lv' := [(7, .int n0), (6, .int 8), (0, .ref mo), (1, .int n0), (2, .int n1), (3, .int n2), (4, .int n3), (5, .int n4)]) hx hb dX8_feed_31 hl (by decide) rfl (fun ls hl => ?_)
  refine lv_iload hx hb dX8_feed_33 (lv_at hl 1 rfl) ?_
  refine lv_iconst (v := 4) hx hb dX8_feed_35 (by decide) ?_
  refine lv_icmp_lt (tgt := 42) hx hb dX8_feed_36 (by decide) (fun c_108 => absurd c_108 (by decide)) (fun c_108 => ?_)
  refine lv_iload_n hx hb dX8_feed_39 rfl (lv_at hl 4 rfl) ?_
  refine lv_istore (lv' := [(7, .int n1), (6, .int 8), (0, .ref mo), (1, .int n0), (2, .int n1), (3, .int n2), (4, .int n3), (5, .int n4)]) hx hb dX8_feed_40 hl (by decide) rfl (fun ls hl => ?_)
  refine lv_iload hx hb dX8_feed_42 (lv_at hl 1 rfl) ?_
  refine lv_bipush (v := 8) hx hb dX8_feed_44 (by decide) ?_
  refine lv_icmp_lt (tgt := 52) hx hb dX8_feed_46 (by decide) (fun c_109 => absurd c_109 (by decide)) (fun c_109 => ?_)
  refine lv_iload_n hx hb dX8_feed_49 rfl (lv_at hl 5 rfl) ?_
  refine lv_istore (lv' := [(7, .int n2), (6, .int 8), (0, .ref mo), (1, .int n0), (2, .int n1), (3, .int n2), (4, .int n3), (5, .int n4)]) hx hb dX8_feed_50 hl (by decide) rfl (fun ls hl => ?_)
  refine lv_iload hx hb dX8_feed_52 (lv_at hl 1 rfl) ?_
  refine lv_bipush (v := 12) hx hb dX8_feed_54 (by decide) ?_
  refine lv_icmp_lt (tgt := 63) hx hb dX8_feed_56 (by decide) (fun c_110 => ?_) (fun c_110 => absurd (by decide) c_110)
  refine lv_iload hx hb dX8_feed_63 (lv_at hl 1 rfl) ?_
  refine lv_bipush (v := 16) hx hb dX8_feed_65 (by decide) ?_
  refine lv_icmp_lt (tgt := 74) hx hb dX8_feed_67 (by decide) (fun c_111 => ?_) (fun c_111 => absurd (by decide) c_111)
  refine lv_aload_n hx hb dX8_feed_74 rfl (lv_at hl 2 rfl) ?_
  refine va_get (D := (dC, dI)) (ci := 6) (v := .ref m2) (C := RX8) (T := TX8) (N := 39) hx hb hts iX8 hown hK hP 0 rfl rfl 2 (by decide) (hts (.fieldLink RX8 17 "BatchTransferModel" "tape" "[B") (by decide +kernel)) (fun _ h9 => h9) rfl dX8_feed_75 ?_
  refine lv_aload_n hx hb dX8_feed_78 rfl (lv_at hl 2 rfl) ?_
  refine va_get (D := (dC, dI)) (ci := 6) (v := .int 8) (C := RX8) (T := TX8) (N := 39) hx hb hts iX8 hown hK hP 0 rfl rfl 3 (by decide) (hts (.fieldLink RX8 21 "BatchTransferModel" "tapeLen" "I") (by decide +kernel)) (fun _ h9 => h9) rfl dX8_feed_79 ?_
  refine lv_iload hx hb dX8_feed_82 (lv_at hl 0 rfl) ?_
  refine lv_bipush (v := 24) hx hb dX8_feed_84 (by decide) ?_
  refine lv_bipush (v := 8) hx hb dX8_feed_86 (by decide) ?_
  refine lv_iload hx hb dX8_feed_88 (lv_at hl 1 rfl) ?_
  refine lv_iconst (v := 3) hx hb dX8_feed_90 (by decide) ?_
  refine lv_iand hx hb dX8_feed_91 ?_
  refine lv_topi (fun x_112 ex_112 => ?_)
  obtain rfl : x_112 = 0 := ex_112.trans (by decide)
  refine lv_imul hx hb dX8_feed_92 ?_
  refine lv_topi (fun x_113 ex_113 => ?_)
  obtain rfl : x_113 = 0 := ex_113.trans (by decide)
  refine lv_isub hx hb dX8_feed_93 ?_
  refine lv_topi (fun x_114 ex_114 => ?_)
  obtain rfl : x_114 = 24 := ex_114.trans (by decide)
  refine lv_ishr hx hb dX8_feed_94 ?_
  refine lv_topi (fun x_115 ex_115 => ?_)
  refine lv_i2b hx hb dX8_feed_95 rfl ?_
  refine lv_topi (fun x_116 ex_116 => ?_)
  have h_117 : vp_in (8) 3100 := by unfold vp_in; decide +kernel
  refine va_bast hx hb hK hP hD hS 1 0 rfl rfl h_117 dX8_feed_96 (fun H locs hP hD hS => ?_)
  obtain ⟨f_118, ef_118⟩ : ∃ g : Nat → Int32, g = upd f_105 (8 : Int32).toNatClampNeg (vp_nar .byte x_116) := ⟨_, rfl⟩
  have hP : va_P (dC, dI) vwCl [(mo, .inr (6, [.int 0, .ref m1, .ref m2, .int 8, .int 0, .ref m5, .ref m6, .ref m7, .ref m8, .int 0, .ref m10, .ref m11, .ref m12, .ref m13, .ref m14, .int 0, .int 0, .int 0, .ref m18, .int 0, .int 0, .int 0, .int 0, .int 0, .int 0, .int 0, .int 0, .int 0, .int 0, .int 0, .int 0, .int 0, .int 0, .int 0, .ref m34, .ref m35, .ref m36, .ref m37, .int 0])), (m2, .inl (k2, 3100, .inl f_118))] H := by rw [ef_118]; exact hP
  have hD : va_D A [(mo, .inr (6, [.int 0, .ref m1, .ref m2, .int 8, .int 0, .ref m5, .ref m6, .ref m7, .ref m8, .int 0, .ref m10, .ref m11, .ref m12, .ref m13, .ref m14, .int 0, .int 0, .int 0, .ref m18, .int 0, .int 0, .int 0, .int 0, .int 0, .int 0, .int 0, .int 0, .int 0, .int 0, .int 0, .int 0, .int 0, .int 0, .int 0, .ref m34, .ref m35, .ref m36, .ref m37, .int 0])), (m2, .inl (k2, 3100, .inl f_118))] := by rw [ef_118]; exact hD
  refine lv_aload_n hx hb dX8_feed_97 rfl (lv_at hl 2 rfl) ?_
  refine lv_dup hx hb dX8_feed_98 rfl ?_
  refine va_get (D := (dC, dI)) (ci := 6) (v := .int 8) (C := RX8) (T := TX8) (N := 39) hx hb hts iX8 hown hK hP 0 rfl rfl 3 (by decide) (hts (.fieldLink RX8 21 "BatchTransferModel" "tapeLen" "I") (by decide +kernel)) (fun _ h9 => h9) rfl dX8_feed_99 ?_
  refine lv_iconst (v := 1) hx hb dX8_feed_102 (by decide) ?_
  refine lv_iadd hx hb dX8_feed_103 ?_
  refine lv_topi (fun x_119 ex_119 => ?_)
  obtain rfl : x_119 = 9 := ex_119.trans (by decide)
  refine va_put (D := (dC, dI)) (ci := 6) (v := .int 9) (ty := .int) (C := RX8) (T := TX8) (N := 39) hx hb hts iX8 tyX8 tyX8_ok nmX8 hown hK hP hD hS 0 rfl rfl 3 (by decide) (hts (.fieldLink RX8 21 "BatchTransferModel" "tapeLen" "I") (by decide +kernel)) (fun _ h9 => h9) rfl (by decide +kernel) rfl rfl (Nat.le_of_ble_eq_true rfl) dX8_feed_104 (fun H locs hP hD hS => ?_)
  have hP : va_P (dC, dI) vwCl [(mo, .inr (6, [.int 0, .ref m1, .ref m2, .int 9, .int 0, .ref m5, .ref m6, .ref m7, .ref m8, .int 0, .ref m10, .ref m11, .ref m12, .ref m13, .ref m14, .int 0, .int 0, .int 0, .ref m18, .int 0, .int 0, .int 0, .int 0, .int 0, .int 0, .int 0, .int 0, .int 0, .int 0, .int 0, .int 0, .int 0, .int 0, .int 0, .ref m34, .ref m35, .ref m36, .ref m37, .int 0])), (m2, .inl (k2, 3100, .inl f_118))] H := hP
  have hD : va_D A [(mo, .inr (6, [.int 0, .ref m1, .ref m2, .int 9, .int 0, .ref m5, .ref m6, .ref m7, .ref m8, .int 0, .ref m10, .ref m11, .ref m12, .ref m13, .ref m14, .int 0, .int 0, .int 0, .ref m18, .int 0, .int 0, .int 0, .int 0, .int 0, .int 0, .int 0, .int 0, .int 0, .int 0, .int 0, .int 0, .int 0, .int 0, .int 0, .ref m34, .ref m35, .ref m36, .ref m37, .int 0])), (m2, .inl (k2, 3100, .inl f_118))] := hD
  refine lv_iinc (v := 9) (lv' := [(6, .int 9), (7, .int n2), (0, .ref mo), (1, .int n0), (2, .int n1), (3, .int n2), (4, .int n3), (5, .int n4)]) hx hb dX8_feed_107 hl (k := 1) rfl (by decide) (by decide) rfl (fun ls hl => ?_)
  refine lv_goto (tgt := 23) hx hb dX8_feed_110 (by decide) ?_
  refine lv_iload hx hb dX8_feed_23 (lv_at hl 0 rfl) ?_
  refine lv_bipush (v := 20) hx hb dX8_feed_25 (by decide) ?_
  refine lv_icmp_ge (tgt := 113) hx hb dX8_feed_27 (by decide) (fun c_120 => absurd c_120 (by decide)) (fun c_120 => ?_)
  refine lv_iload_n hx hb dX8_feed_30 rfl (lv_at hl 3 rfl) ?_
  refine lv_istore (lv' := [(7, .int n0), (6, .int 9), (0, .ref mo), (1, .int n0), (2, .int n1), (3, .int n2), (4, .int n3), (5, .int n4)]) hx hb dX8_feed_31 hl (by decide) rfl (fun ls hl => ?_)
  refine lv_iload hx hb dX8_feed_33 (lv_at hl 1 rfl) ?_
  refine lv_iconst (v := 4) hx hb dX8_feed_35 (by decide) ?_
  refine lv_icmp_lt (tgt := 42) hx hb dX8_feed_36 (by decide) (fun c_121 => absurd c_121 (by decide)) (fun c_121 => ?_)
  refine lv_iload_n hx hb dX8_feed_39 rfl (lv_at hl 4 rfl) ?_
  refine lv_istore (lv' := [(7, .int n1), (6, .int 9), (0, .ref mo), (1, .int n0), (2, .int n1), (3, .int n2), (4, .int n3), (5, .int n4)]) hx hb dX8_feed_40 hl (by decide) rfl (fun ls hl => ?_)
  refine lv_iload hx hb dX8_feed_42 (lv_at hl 1 rfl) ?_
  refine lv_bipush (v := 8) hx hb dX8_feed_44 (by decide) ?_
  refine lv_icmp_lt (tgt := 52) hx hb dX8_feed_46 (by decide) (fun c_122 => absurd c_122 (by decide)) (fun c_122 => ?_)
  refine lv_iload_n hx hb dX8_feed_49 rfl (lv_at hl 5 rfl) ?_
  refine lv_istore (lv' := [(7, .int n2), (6, .int 9), (0, .ref mo), (1, .int n0), (2, .int n1), (3, .int n2), (4, .int n3), (5, .int n4)]) hx hb dX8_feed_50 hl (by decide) rfl (fun ls hl => ?_)
  refine lv_iload hx hb dX8_feed_52 (lv_at hl 1 rfl) ?_
  refine lv_bipush (v := 12) hx hb dX8_feed_54 (by decide) ?_
  refine lv_icmp_lt (tgt := 63) hx hb dX8_feed_56 (by decide) (fun c_123 => ?_) (fun c_123 => absurd (by decide) c_123)
  refine lv_iload hx hb dX8_feed_63 (lv_at hl 1 rfl) ?_
  refine lv_bipush (v := 16) hx hb dX8_feed_65 (by decide) ?_
  refine lv_icmp_lt (tgt := 74) hx hb dX8_feed_67 (by decide) (fun c_124 => ?_) (fun c_124 => absurd (by decide) c_124)
  refine lv_aload_n hx hb dX8_feed_74 rfl (lv_at hl 2 rfl) ?_
  refine va_get (D := (dC, dI)) (ci := 6) (v := .ref m2) (C := RX8) (T := TX8) (N := 39) hx hb hts iX8 hown hK hP 0 rfl rfl 2 (by decide) (hts (.fieldLink RX8 17 "BatchTransferModel" "tape" "[B") (by decide +kernel)) (fun _ h9 => h9) rfl dX8_feed_75 ?_
  refine lv_aload_n hx hb dX8_feed_78 rfl (lv_at hl 2 rfl) ?_
  refine va_get (D := (dC, dI)) (ci := 6) (v := .int 9) (C := RX8) (T := TX8) (N := 39) hx hb hts iX8 hown hK hP 0 rfl rfl 3 (by decide) (hts (.fieldLink RX8 21 "BatchTransferModel" "tapeLen" "I") (by decide +kernel)) (fun _ h9 => h9) rfl dX8_feed_79 ?_
  refine lv_iload hx hb dX8_feed_82 (lv_at hl 0 rfl) ?_
  refine lv_bipush (v := 24) hx hb dX8_feed_84 (by decide) ?_
  refine lv_bipush (v := 8) hx hb dX8_feed_86 (by decide) ?_
  refine lv_iload hx hb dX8_feed_88 (lv_at hl 1 rfl) ?_
  refine lv_iconst (v := 3) hx hb dX8_feed_90 (by decide) ?_
  refine lv_iand hx hb dX8_feed_91 ?_
  refine lv_topi (fun x_125 ex_125 => ?_)
  obtain rfl : x_125 = 1 := ex_125.trans (by decide)
  refine lv_imul hx hb dX8_feed_92 ?_
  refine lv_topi (fun x_126 ex_126 => ?_)
  obtain rfl : x_126 = 8 := ex_126.trans (by decide)
  refine lv_isub hx hb dX8_feed_93 ?_
  refine lv_topi (fun x_127 ex_127 => ?_)
  obtain rfl : x_127 = 16 := ex_127.trans (by decide)
  refine lv_ishr hx hb dX8_feed_94 ?_
  refine lv_topi (fun x_128 ex_128 => ?_)
  refine lv_i2b hx hb dX8_feed_95 rfl ?_
  refine lv_topi (fun x_129 ex_129 => ?_)
  have h_130 : vp_in (9) 3100 := by unfold vp_in; decide +kernel
  refine va_bast hx hb hK hP hD hS 1 0 rfl rfl h_130 dX8_feed_96 (fun H locs hP hD hS => ?_)
  obtain ⟨f_131, ef_131⟩ : ∃ g : Nat → Int32, g = upd f_118 (9 : Int32).toNatClampNeg (vp_nar .byte x_129) := ⟨_, rfl⟩
  have hP : va_P (dC, dI) vwCl [(mo, .inr (6, [.int 0, .ref m1, .ref m2, .int 9, .int 0, .ref m5, .ref m6, .ref m7, .ref m8, .int 0, .ref m10, .ref m11, .ref m12, .ref m13, .ref m14, .int 0, .int 0, .int 0, .ref m18, .int 0, .int 0, .int 0, .int 0, .int 0, .int 0, .int 0, .int 0, .int 0, .int 0, .int 0, .int 0, .int 0, .int 0, .int 0, .ref m34, .ref m35, .ref m36, .ref m37, .int 0])), (m2, .inl (k2, 3100, .inl f_131))] H := by rw [ef_131]; exact hP
  have hD : va_D A [(mo, .inr (6, [.int 0, .ref m1, .ref m2, .int 9, .int 0, .ref m5, .ref m6, .ref m7, .ref m8, .int 0, .ref m10, .ref m11, .ref m12, .ref m13, .ref m14, .int 0, .int 0, .int 0, .ref m18, .int 0, .int 0, .int 0, .int 0, .int 0, .int 0, .int 0, .int 0, .int 0, .int 0, .int 0, .int 0, .int 0, .int 0, .int 0, .ref m34, .ref m35, .ref m36, .ref m37, .int 0])), (m2, .inl (k2, 3100, .inl f_131))] := by rw [ef_131]; exact hD
  refine lv_aload_n hx hb dX8_feed_97 rfl (lv_at hl 2 rfl) ?_
  refine lv_dup hx hb dX8_feed_98 rfl ?_
  refine va_get (D := (dC, dI)) (ci := 6) (v := .int 9) (C := RX8) (T := TX8) (N := 39) hx hb hts iX8 hown hK hP 0 rfl rfl 3 (by decide) (hts (.fieldLink RX8 21 "BatchTransferModel" "tapeLen" "I") (by decide +kernel)) (fun _ h9 => h9) rfl dX8_feed_99 ?_
  refine lv_iconst (v := 1) hx hb dX8_feed_102 (by decide) ?_
  refine lv_iadd hx hb dX8_feed_103 ?_
  refine lv_topi (fun x_132 ex_132 => ?_)
  obtain rfl : x_132 = 10 := ex_132.trans (by decide)
  refine va_put (D := (dC, dI)) (ci := 6) (v := .int 10) (ty := .int) (C := RX8) (T := TX8) (N := 39) hx hb hts iX8 tyX8 tyX8_ok nmX8 hown hK hP hD hS 0 rfl rfl 3 (by decide) (hts (.fieldLink RX8 21 "BatchTransferModel" "tapeLen" "I") (by decide +kernel)) (fun _ h9 => h9) rfl (by decide +kernel) rfl rfl (Nat.le_of_ble_eq_true rfl) dX8_feed_104 (fun H locs hP hD hS => ?_)
  have hP : va_P (dC, dI) vwCl [(mo, .inr (6, [.int 0, .ref m1, .ref m2, .int 10, .int 0, .ref m5, .ref m6, .ref m7, .ref m8, .int 0, .ref m10, .ref m11, .ref m12, .ref m13, .ref m14, .int 0, .int 0, .int 0, .ref m18, .int 0, .int 0, .int 0, .int 0, .int 0, .int 0, .int 0, .int 0, .int 0, .int 0, .int 0, .int 0, .int 0, .int 0, .int 0, .ref m34, .ref m35, .ref m36, .ref m37, .int 0])), (m2, .inl (k2, 3100, .inl f_131))] H := hP
  have hD : va_D A [(mo, .inr (6, [.int 0, .ref m1, .ref m2, .int 10, .int 0, .ref m5, .ref m6, .ref m7, .ref m8, .int 0, .ref m10, .ref m11, .ref m12, .ref m13, .ref m14, .int 0, .int 0, .int 0, .ref m18, .int 0, .int 0, .int 0, .int 0, .int 0, .int 0, .int 0, .int 0, .int 0, .int 0, .int 0, .int 0, .int 0, .int 0, .int 0, .ref m34, .ref m35, .ref m36, .ref m37, .int 0])), (m2, .inl (k2, 3100, .inl f_131))] := hD
  refine lv_iinc (v := 10) (lv' := [(6, .int 10), (7, .int n2), (0, .ref mo), (1, .int n0), (2, .int n1), (3, .int n2), (4, .int n3), (5, .int n4)]) hx hb dX8_feed_107 hl (k := 1) rfl (by decide) (by decide) rfl (fun ls hl => ?_)
  refine lv_goto (tgt := 23) hx hb dX8_feed_110 (by decide) ?_
  refine lv_iload hx hb dX8_feed_23 (lv_at hl 0 rfl) ?_
  refine lv_bipush (v := 20) hx hb dX8_feed_25 (by decide) ?_
  refine lv_icmp_ge (tgt := 113) hx hb dX8_feed_27 (by decide) (fun c_133 => absurd c_133 (by decide)) (fun c_133 => ?_)
  refine lv_iload_n hx hb dX8_feed_30 rfl (lv_at hl 3 rfl) ?_
  refine lv_istore (lv' := [(7, .int n0), (6, .int 10), (0, .ref mo), (1, .int n0), (2, .int n1), (3, .int n2), (4, .int n3), (5, .int n4)]) hx hb dX8_feed_31 hl (by decide) rfl (fun ls hl => ?_)
  refine lv_iload hx hb dX8_feed_33 (lv_at hl 1 rfl) ?_
  refine lv_iconst (v := 4) hx hb dX8_feed_35 (by decide) ?_
  refine lv_icmp_lt (tgt := 42) hx hb dX8_feed_36 (by decide) (fun c_134 => absurd c_134 (by decide)) (fun c_134 => ?_)
  refine lv_iload_n hx hb dX8_feed_39 rfl (lv_at hl 4 rfl) ?_
  refine lv_istore (lv' := [(7, .int n1), (6, .int 10), (0, .ref mo), (1, .int n0), (2, .int n1), (3, .int n2), (4, .int n3), (5, .int n4)]) hx hb dX8_feed_40 hl (by decide) rfl (fun ls hl => ?_)
  refine lv_iload hx hb dX8_feed_42 (lv_at hl 1 rfl) ?_
  refine lv_bipush (v := 8) hx hb dX8_feed_44 (by decide) ?_
  refine lv_icmp_lt (tgt := 52) hx hb dX8_feed_46 (by decide) (fun c_135 => absurd c_135 (by decide)) (fun c_135 => ?_)
  refine lv_iload_n hx hb dX8_feed_49 rfl (lv_at hl 5 rfl) ?_
  refine lv_istore (lv' := [(7, .int n2), (6, .int 10), (0, .ref mo), (1, .int n0), (2, .int n1), (3, .int n2), (4, .int n3), (5, .int n4)]) hx hb dX8_feed_50 hl (by decide) rfl (fun ls hl => ?_)
  refine lv_iload hx hb dX8_feed_52 (lv_at hl 1 rfl) ?_
  refine lv_bipush (v := 12) hx hb dX8_feed_54 (by decide) ?_
  refine lv_icmp_lt (tgt := 63) hx hb dX8_feed_56 (by decide) (fun c_136 => ?_) (fun c_136 => absurd (by decide) c_136)
  refine lv_iload hx hb dX8_feed_63 (lv_at hl 1 rfl) ?_
  refine lv_bipush (v := 16) hx hb dX8_feed_65 (by decide) ?_
  refine lv_icmp_lt (tgt := 74) hx hb dX8_feed_67 (by decide) (fun c_137 => ?_) (fun c_137 => absurd (by decide) c_137)
  refine lv_aload_n hx hb dX8_feed_74 rfl (lv_at hl 2 rfl) ?_
  refine va_get (D := (dC, dI)) (ci := 6) (v := .ref m2) (C := RX8) (T := TX8) (N := 39) hx hb hts iX8 hown hK hP 0 rfl rfl 2 (by decide) (hts (.fieldLink RX8 17 "BatchTransferModel" "tape" "[B") (by decide +kernel)) (fun _ h9 => h9) rfl dX8_feed_75 ?_
  refine lv_aload_n hx hb dX8_feed_78 rfl (lv_at hl 2 rfl) ?_
  refine va_get (D := (dC, dI)) (ci := 6) (v := .int 10) (C := RX8) (T := TX8) (N := 39) hx hb hts iX8 hown hK hP 0 rfl rfl 3 (by decide) (hts (.fieldLink RX8 21 "BatchTransferModel" "tapeLen" "I") (by decide +kernel)) (fun _ h9 => h9) rfl dX8_feed_79 ?_
  refine lv_iload hx hb dX8_feed_82 (lv_at hl 0 rfl) ?_
  refine lv_bipush (v := 24) hx hb dX8_feed_84 (by decide) ?_
  refine lv_bipush (v := 8) hx hb dX8_feed_86 (by decide) ?_
  refine lv_iload hx hb dX8_feed_88 (lv_at hl 1 rfl) ?_
  refine lv_iconst (v := 3) hx hb dX8_feed_90 (by decide) ?_
  refine lv_iand hx hb dX8_feed_91 ?_
  refine lv_topi (fun x_138 ex_138 => ?_)
  obtain rfl : x_138 = 2 := ex_138.trans (by decide)
  refine lv_imul hx hb dX8_feed_92 ?_
  refine lv_topi (fun x_139 ex_139 => ?_)
  obtain rfl : x_139 = 16 := ex_139.trans (by decide)
  refine lv_isub hx hb dX8_feed_93 ?_
  refine lv_topi (fun x_140 ex_140 => ?_)
  obtain rfl : x_140 = 8 := ex_140.trans (by decide)
  refine lv_ishr hx hb dX8_feed_94 ?_
  refine lv_topi (fun x_141 ex_141 => ?_)
  refine lv_i2b hx hb dX8_feed_95 rfl ?_
  refine lv_topi (fun x_142 ex_142 => ?_)
  have h_143 : vp_in (10) 3100 := by unfold vp_in; decide +kernel
  refine va_bast hx hb hK hP hD hS 1 0 rfl rfl h_143 dX8_feed_96 (fun H locs hP hD hS => ?_)
  obtain ⟨f_144, ef_144⟩ : ∃ g : Nat → Int32, g = upd f_131 (10 : Int32).toNatClampNeg (vp_nar .byte x_142) := ⟨_, rfl⟩
  have hP : va_P (dC, dI) vwCl [(mo, .inr (6, [.int 0, .ref m1, .ref m2, .int 10, .int 0, .ref m5, .ref m6, .ref m7, .ref m8, .int 0, .ref m10, .ref m11, .ref m12, .ref m13, .ref m14, .int 0, .int 0, .int 0, .ref m18, .int 0, .int 0, .int 0, .int 0, .int 0, .int 0, .int 0, .int 0, .int 0, .int 0, .int 0, .int 0, .int 0, .int 0, .int 0, .ref m34, .ref m35, .ref m36, .ref m37, .int 0])), (m2, .inl (k2, 3100, .inl f_144))] H := by rw [ef_144]; exact hP
  have hD : va_D A [(mo, .inr (6, [.int 0, .ref m1, .ref m2, .int 10, .int 0, .ref m5, .ref m6, .ref m7, .ref m8, .int 0, .ref m10, .ref m11, .ref m12, .ref m13, .ref m14, .int 0, .int 0, .int 0, .ref m18, .int 0, .int 0, .int 0, .int 0, .int 0, .int 0, .int 0, .int 0, .int 0, .int 0, .int 0, .int 0, .int 0, .int 0, .int 0, .ref m34, .ref m35, .ref m36, .ref m37, .int 0])), (m2, .inl (k2, 3100, .inl f_144))] := by rw [ef_144]; exact hD
  refine lv_aload_n hx hb dX8_feed_97 rfl (lv_at hl 2 rfl) ?_
  refine lv_dup hx hb dX8_feed_98 rfl ?_
  refine va_get (D := (dC, dI)) (ci := 6) (v := .int 10) (C := RX8) (T := TX8) (N := 39) hx hb hts iX8 hown hK hP 0 rfl rfl 3 (by decide) (hts (.fieldLink RX8 21 "BatchTransferModel" "tapeLen" "I") (by decide +kernel)) (fun _ h9 => h9) rfl dX8_feed_99 ?_
  refine lv_iconst (v := 1) hx hb dX8_feed_102 (by decide) ?_
  refine lv_iadd hx hb dX8_feed_103 ?_
  refine lv_topi (fun x_145 ex_145 => ?_)
  obtain rfl : x_145 = 11 := ex_145.trans (by decide)
  refine va_put (D := (dC, dI)) (ci := 6) (v := .int 11) (ty := .int) (C := RX8) (T := TX8) (N := 39) hx hb hts iX8 tyX8 tyX8_ok nmX8 hown hK hP hD hS 0 rfl rfl 3 (by decide) (hts (.fieldLink RX8 21 "BatchTransferModel" "tapeLen" "I") (by decide +kernel)) (fun _ h9 => h9) rfl (by decide +kernel) rfl rfl (Nat.le_of_ble_eq_true rfl) dX8_feed_104 (fun H locs hP hD hS => ?_)
  have hP : va_P (dC, dI) vwCl [(mo, .inr (6, [.int 0, .ref m1, .ref m2, .int 11, .int 0, .ref m5, .ref m6, .ref m7, .ref m8, .int 0, .ref m10, .ref m11, .ref m12, .ref m13, .ref m14, .int 0, .int 0, .int 0, .ref m18, .int 0, .int 0, .int 0, .int 0, .int 0, .int 0, .int 0, .int 0, .int 0, .int 0, .int 0, .int 0, .int 0, .int 0, .int 0, .ref m34, .ref m35, .ref m36, .ref m37, .int 0])), (m2, .inl (k2, 3100, .inl f_144))] H := hP
  have hD : va_D A [(mo, .inr (6, [.int 0, .ref m1, .ref m2, .int 11, .int 0, .ref m5, .ref m6, .ref m7, .ref m8, .int 0, .ref m10, .ref m11, .ref m12, .ref m13, .ref m14, .int 0, .int 0, .int 0, .ref m18, .int 0, .int 0, .int 0, .int 0, .int 0, .int 0, .int 0, .int 0, .int 0, .int 0, .int 0, .int 0, .int 0, .int 0, .int 0, .ref m34, .ref m35, .ref m36, .ref m37, .int 0])), (m2, .inl (k2, 3100, .inl f_144))] := hD
  refine lv_iinc (v := 11) (lv' := [(6, .int 11), (7, .int n2), (0, .ref mo), (1, .int n0), (2, .int n1), (3, .int n2), (4, .int n3), (5, .int n4)]) hx hb dX8_feed_107 hl (k := 1) rfl (by decide) (by decide) rfl (fun ls hl => ?_)
  refine lv_goto (tgt := 23) hx hb dX8_feed_110 (by decide) ?_
  refine lv_iload hx hb dX8_feed_23 (lv_at hl 0 rfl) ?_
  refine lv_bipush (v := 20) hx hb dX8_feed_25 (by decide) ?_
  refine lv_icmp_ge (tgt := 113) hx hb dX8_feed_27 (by decide) (fun c_146 => absurd c_146 (by decide)) (fun c_146 => ?_)
  refine lv_iload_n hx hb dX8_feed_30 rfl (lv_at hl 3 rfl) ?_
  refine lv_istore (lv' := [(7, .int n0), (6, .int 11), (0, .ref mo), (1, .int n0), (2, .int n1), (3, .int n2), (4, .int n3), (5, .int n4)]) hx hb dX8_feed_31 hl (by decide) rfl (fun ls hl => ?_)
  refine lv_iload hx hb dX8_feed_33 (lv_at hl 1 rfl) ?_
  refine lv_iconst (v := 4) hx hb dX8_feed_35 (by decide) ?_
  refine lv_icmp_lt (tgt := 42) hx hb dX8_feed_36 (by decide) (fun c_147 => absurd c_147 (by decide)) (fun c_147 => ?_)
  refine lv_iload_n hx hb dX8_feed_39 rfl (lv_at hl 4 rfl) ?_
  refine lv_istore (lv' := [(7, .int n1), (6, .int 11), (0, .ref mo), (1, .int n0), (2, .int n1), (3, .int n2), (4, .int n3), (5, .int n4)]) hx hb dX8_feed_40 hl (by decide) rfl (fun ls hl => ?_)
  refine lv_iload hx hb dX8_feed_42 (lv_at hl 1 rfl) ?_
  refine lv_bipush (v := 8) hx hb dX8_feed_44 (by decide) ?_
  refine lv_icmp_lt (tgt := 52) hx hb dX8_feed_46 (by decide) (fun c_148 => absurd c_148 (by decide)) (fun c_148 => ?_)
  refine lv_iload_n hx hb dX8_feed_49 rfl (lv_at hl 5 rfl) ?_
  refine lv_istore (lv' := [(7, .int n2), (6, .int 11), (0, .ref mo), (1, .int n0), (2, .int n1), (3, .int n2), (4, .int n3), (5, .int n4)]) hx hb dX8_feed_50 hl (by decide) rfl (fun ls hl => ?_)
  refine lv_iload hx hb dX8_feed_52 (lv_at hl 1 rfl) ?_
  refine lv_bipush (v := 12) hx hb dX8_feed_54 (by decide) ?_
  refine lv_icmp_lt (tgt := 63) hx hb dX8_feed_56 (by decide) (fun c_149 => ?_) (fun c_149 => absurd (by decide) c_149)
  refine lv_iload hx hb dX8_feed_63 (lv_at hl 1 rfl) ?_
  refine lv_bipush (v := 16) hx hb dX8_feed_65 (by decide) ?_
  refine lv_icmp_lt (tgt := 74) hx hb dX8_feed_67 (by decide) (fun c_150 => ?_) (fun c_150 => absurd (by decide) c_150)
  refine lv_aload_n hx hb dX8_feed_74 rfl (lv_at hl 2 rfl) ?_
  refine va_get (D := (dC, dI)) (ci := 6) (v := .ref m2) (C := RX8) (T := TX8) (N := 39) hx hb hts iX8 hown hK hP 0 rfl rfl 2 (by decide) (hts (.fieldLink RX8 17 "BatchTransferModel" "tape" "[B") (by decide +kernel)) (fun _ h9 => h9) rfl dX8_feed_75 ?_
  refine lv_aload_n hx hb dX8_feed_78 rfl (lv_at hl 2 rfl) ?_
  refine va_get (D := (dC, dI)) (ci := 6) (v := .int 11) (C := RX8) (T := TX8) (N := 39) hx hb hts iX8 hown hK hP 0 rfl rfl 3 (by decide) (hts (.fieldLink RX8 21 "BatchTransferModel" "tapeLen" "I") (by decide +kernel)) (fun _ h9 => h9) rfl dX8_feed_79 ?_
  refine lv_iload hx hb dX8_feed_82 (lv_at hl 0 rfl) ?_
  refine lv_bipush (v := 24) hx hb dX8_feed_84 (by decide) ?_
  refine lv_bipush (v := 8) hx hb dX8_feed_86 (by decide) ?_
  refine lv_iload hx hb dX8_feed_88 (lv_at hl 1 rfl) ?_
  refine lv_iconst (v := 3) hx hb dX8_feed_90 (by decide) ?_
  refine lv_iand hx hb dX8_feed_91 ?_
  refine lv_topi (fun x_151 ex_151 => ?_)
  obtain rfl : x_151 = 3 := ex_151.trans (by decide)
  refine lv_imul hx hb dX8_feed_92 ?_
  refine lv_topi (fun x_152 ex_152 => ?_)
  obtain rfl : x_152 = 24 := ex_152.trans (by decide)
  refine lv_isub hx hb dX8_feed_93 ?_
  refine lv_topi (fun x_153 ex_153 => ?_)
  obtain rfl : x_153 = 0 := ex_153.trans (by decide)
  refine lv_ishr hx hb dX8_feed_94 ?_
  refine lv_topi (fun x_154 ex_154 => ?_)
  refine lv_i2b hx hb dX8_feed_95 rfl ?_
  refine lv_topi (fun x_155 ex_155 => ?_)
  have h_156 : vp_in (11) 3100 := by unfold vp_in; decide +kernel
  refine va_bast hx hb hK hP hD hS 1 0 rfl rfl h_156 dX8_feed_96 (fun H locs hP hD hS => ?_)
  obtain ⟨f_157, ef_157⟩ : ∃ g : Nat → Int32, g = upd f_144 (11 : Int32).toNatClampNeg (vp_nar .byte x_155) := ⟨_, rfl⟩
  have hP : va_P (dC, dI) vwCl [(mo, .inr (6, [.int 0, .ref m1, .ref m2, .int 11, .int 0, .ref m5, .ref m6, .ref m7, .ref m8, .int 0, .ref m10, .ref m11, .ref m12, .ref m13, .ref m14, .int 0, .int 0, .int 0, .ref m18, .int 0, .int 0, .int 0, .int 0, .int 0, .int 0, .int 0, .int 0, .int 0, .int 0, .int 0, .int 0, .int 0, .int 0, .int 0, .ref m34, .ref m35, .ref m36, .ref m37, .int 0])), (m2, .inl (k2, 3100, .inl f_157))] H := by rw [ef_157]; exact hP
  have hD : va_D A [(mo, .inr (6, [.int 0, .ref m1, .ref m2, .int 11, .int 0, .ref m5, .ref m6, .ref m7, .ref m8, .int 0, .ref m10, .ref m11, .ref m12, .ref m13, .ref m14, .int 0, .int 0, .int 0, .ref m18, .int 0, .int 0, .int 0, .int 0, .int 0, .int 0, .int 0, .int 0, .int 0, .int 0, .int 0, .int 0, .int 0, .int 0, .int 0, .ref m34, .ref m35, .ref m36, .ref m37, .int 0])), (m2, .inl (k2, 3100, .inl f_157))] := by rw [ef_157]; exact hD
  refine lv_aload_n hx hb dX8_feed_97 rfl (lv_at hl 2 rfl) ?_
  refine lv_dup hx hb dX8_feed_98 rfl ?_
  refine va_get (D := (dC, dI)) (ci := 6) (v := .int 11) (C := RX8) (T := TX8) (N := 39) hx hb hts iX8 hown hK hP 0 rfl rfl 3 (by decide) (hts (.fieldLink RX8 21 "BatchTransferModel" "tapeLen" "I") (by decide +kernel)) (fun _ h9 => h9) rfl dX8_feed_99 ?_
  refine lv_iconst (v := 1) hx hb dX8_feed_102 (by decide) ?_
  refine lv_iadd hx hb dX8_feed_103 ?_
  refine lv_topi (fun x_158 ex_158 => ?_)
  obtain rfl : x_158 = 12 := ex_158.trans (by decide)
  refine va_put (D := (dC, dI)) (ci := 6) (v := .int 12) (ty := .int) (C := RX8) (T := TX8) (N := 39) hx hb hts iX8 tyX8 tyX8_ok nmX8 hown hK hP hD hS 0 rfl rfl 3 (by decide) (hts (.fieldLink RX8 21 "BatchTransferModel" "tapeLen" "I") (by decide +kernel)) (fun _ h9 => h9) rfl (by decide +kernel) rfl rfl (Nat.le_of_ble_eq_true rfl) dX8_feed_104 (fun H locs hP hD hS => ?_)
  have hP : va_P (dC, dI) vwCl [(mo, .inr (6, [.int 0, .ref m1, .ref m2, .int 12, .int 0, .ref m5, .ref m6, .ref m7, .ref m8, .int 0, .ref m10, .ref m11, .ref m12, .ref m13, .ref m14, .int 0, .int 0, .int 0, .ref m18, .int 0, .int 0, .int 0, .int 0, .int 0, .int 0, .int 0, .int 0, .int 0, .int 0, .int 0, .int 0, .int 0, .int 0, .int 0, .ref m34, .ref m35, .ref m36, .ref m37, .int 0])), (m2, .inl (k2, 3100, .inl f_157))] H := hP
  have hD : va_D A [(mo, .inr (6, [.int 0, .ref m1, .ref m2, .int 12, .int 0, .ref m5, .ref m6, .ref m7, .ref m8, .int 0, .ref m10, .ref m11, .ref m12, .ref m13, .ref m14, .int 0, .int 0, .int 0, .ref m18, .int 0, .int 0, .int 0, .int 0, .int 0, .int 0, .int 0, .int 0, .int 0, .int 0, .int 0, .int 0, .int 0, .int 0, .int 0, .ref m34, .ref m35, .ref m36, .ref m37, .int 0])), (m2, .inl (k2, 3100, .inl f_157))] := hD
  refine lv_iinc (v := 12) (lv' := [(6, .int 12), (7, .int n2), (0, .ref mo), (1, .int n0), (2, .int n1), (3, .int n2), (4, .int n3), (5, .int n4)]) hx hb dX8_feed_107 hl (k := 1) rfl (by decide) (by decide) rfl (fun ls hl => ?_)
  refine lv_goto (tgt := 23) hx hb dX8_feed_110 (by decide) ?_
  refine lv_iload hx hb dX8_feed_23 (lv_at hl 0 rfl) ?_
  refine lv_bipush (v := 20) hx hb dX8_feed_25 (by decide) ?_
  refine lv_icmp_ge (tgt := 113) hx hb dX8_feed_27 (by decide) (fun c_159 => absurd c_159 (by decide)) (fun c_159 => ?_)
  refine lv_iload_n hx hb dX8_feed_30 rfl (lv_at hl 3 rfl) ?_
  refine lv_istore (lv' := [(7, .int n0), (6, .int 12), (0, .ref mo), (1, .int n0), (2, .int n1), (3, .int n2), (4, .int n3), (5, .int n4)]) hx hb dX8_feed_31 hl (by decide) rfl (fun ls hl => ?_)
  refine lv_iload hx hb dX8_feed_33 (lv_at hl 1 rfl) ?_
  refine lv_iconst (v := 4) hx hb dX8_feed_35 (by decide) ?_
  refine lv_icmp_lt (tgt := 42) hx hb dX8_feed_36 (by decide) (fun c_160 => absurd c_160 (by decide)) (fun c_160 => ?_)
  refine lv_iload_n hx hb dX8_feed_39 rfl (lv_at hl 4 rfl) ?_
  refine lv_istore (lv' := [(7, .int n1), (6, .int 12), (0, .ref mo), (1, .int n0), (2, .int n1), (3, .int n2), (4, .int n3), (5, .int n4)]) hx hb dX8_feed_40 hl (by decide) rfl (fun ls hl => ?_)
  refine lv_iload hx hb dX8_feed_42 (lv_at hl 1 rfl) ?_
  refine lv_bipush (v := 8) hx hb dX8_feed_44 (by decide) ?_
  refine lv_icmp_lt (tgt := 52) hx hb dX8_feed_46 (by decide) (fun c_161 => absurd c_161 (by decide)) (fun c_161 => ?_)
  refine lv_iload_n hx hb dX8_feed_49 rfl (lv_at hl 5 rfl) ?_
  refine lv_istore (lv' := [(7, .int n2), (6, .int 12), (0, .ref mo), (1, .int n0), (2, .int n1), (3, .int n2), (4, .int n3), (5, .int n4)]) hx hb dX8_feed_50 hl (by decide) rfl (fun ls hl => ?_)
  refine lv_iload hx hb dX8_feed_52 (lv_at hl 1 rfl) ?_
  refine lv_bipush (v := 12) hx hb dX8_feed_54 (by decide) ?_
  refine lv_icmp_lt (tgt := 63) hx hb dX8_feed_56 (by decide) (fun c_162 => absurd c_162 (by decide)) (fun c_162 => ?_)
  refine lv_iload hx hb dX8_feed_59 (lv_at hl 6 rfl) ?_
  refine lv_istore (lv' := [(7, .int n3), (6, .int 12), (0, .ref mo), (1, .int n0), (2, .int n1), (3, .int n2), (4, .int n3), (5, .int n4)]) hx hb dX8_feed_61 hl (by decide) rfl (fun ls hl => ?_)
  refine lv_iload hx hb dX8_feed_63 (lv_at hl 1 rfl) ?_
  refine lv_bipush (v := 16) hx hb dX8_feed_65 (by decide) ?_
  refine lv_icmp_lt (tgt := 74) hx hb dX8_feed_67 (by decide) (fun c_163 => ?_) (fun c_163 => absurd (by decide) c_163)
  refine lv_aload_n hx hb dX8_feed_74 rfl (lv_at hl 2 rfl) ?_
  refine va_get (D := (dC, dI)) (ci := 6) (v := .ref m2) (C := RX8) (T := TX8) (N := 39) hx hb hts iX8 hown hK hP 0 rfl rfl 2 (by decide) (hts (.fieldLink RX8 17 "BatchTransferModel" "tape" "[B") (by decide +kernel)) (fun _ h9 => h9) rfl dX8_feed_75 ?_
  refine lv_aload_n hx hb dX8_feed_78 rfl (lv_at hl 2 rfl) ?_
  refine va_get (D := (dC, dI)) (ci := 6) (v := .int 12) (C := RX8) (T := TX8) (N := 39) hx hb hts iX8 hown hK hP 0 rfl rfl 3 (by decide) (hts (.fieldLink RX8 21 "BatchTransferModel" "tapeLen" "I") (by decide +kernel)) (fun _ h9 => h9) rfl dX8_feed_79 ?_
  refine lv_iload hx hb dX8_feed_82 (lv_at hl 0 rfl) ?_
  refine lv_bipush (v := 24) hx hb dX8_feed_84 (by decide) ?_
  refine lv_bipush (v := 8) hx hb dX8_feed_86 (by decide) ?_
  refine lv_iload hx hb dX8_feed_88 (lv_at hl 1 rfl) ?_
  refine lv_iconst (v := 3) hx hb dX8_feed_90 (by decide) ?_
  refine lv_iand hx hb dX8_feed_91 ?_
  refine lv_topi (fun x_164 ex_164 => ?_)
  obtain rfl : x_164 = 0 := ex_164.trans (by decide)
  refine lv_imul hx hb dX8_feed_92 ?_
  refine lv_topi (fun x_165 ex_165 => ?_)
  obtain rfl : x_165 = 0 := ex_165.trans (by decide)
  refine lv_isub hx hb dX8_feed_93 ?_
  refine lv_topi (fun x_166 ex_166 => ?_)
  obtain rfl : x_166 = 24 := ex_166.trans (by decide)
  refine lv_ishr hx hb dX8_feed_94 ?_
  refine lv_topi (fun x_167 ex_167 => ?_)
  refine lv_i2b hx hb dX8_feed_95 rfl ?_
  refine lv_topi (fun x_168 ex_168 => ?_)
  have h_169 : vp_in (12) 3100 := by unfold vp_in; decide +kernel
  refine va_bast hx hb hK hP hD hS 1 0 rfl rfl h_169 dX8_feed_96 (fun H locs hP hD hS => ?_)
  obtain ⟨f_170, ef_170⟩ : ∃ g : Nat → Int32, g = upd f_157 (12 : Int32).toNatClampNeg (vp_nar .byte x_168) := ⟨_, rfl⟩
  have hP : va_P (dC, dI) vwCl [(mo, .inr (6, [.int 0, .ref m1, .ref m2, .int 12, .int 0, .ref m5, .ref m6, .ref m7, .ref m8, .int 0, .ref m10, .ref m11, .ref m12, .ref m13, .ref m14, .int 0, .int 0, .int 0, .ref m18, .int 0, .int 0, .int 0, .int 0, .int 0, .int 0, .int 0, .int 0, .int 0, .int 0, .int 0, .int 0, .int 0, .int 0, .int 0, .ref m34, .ref m35, .ref m36, .ref m37, .int 0])), (m2, .inl (k2, 3100, .inl f_170))] H := by rw [ef_170]; exact hP
  have hD : va_D A [(mo, .inr (6, [.int 0, .ref m1, .ref m2, .int 12, .int 0, .ref m5, .ref m6, .ref m7, .ref m8, .int 0, .ref m10, .ref m11, .ref m12, .ref m13, .ref m14, .int 0, .int 0, .int 0, .ref m18, .int 0, .int 0, .int 0, .int 0, .int 0, .int 0, .int 0, .int 0, .int 0, .int 0, .int 0, .int 0, .int 0, .int 0, .int 0, .ref m34, .ref m35, .ref m36, .ref m37, .int 0])), (m2, .inl (k2, 3100, .inl f_170))] := by rw [ef_170]; exact hD
  refine lv_aload_n hx hb dX8_feed_97 rfl (lv_at hl 2 rfl) ?_
  refine lv_dup hx hb dX8_feed_98 rfl ?_
  refine va_get (D := (dC, dI)) (ci := 6) (v := .int 12) (C := RX8) (T := TX8) (N := 39) hx hb hts iX8 hown hK hP 0 rfl rfl 3 (by decide) (hts (.fieldLink RX8 21 "BatchTransferModel" "tapeLen" "I") (by decide +kernel)) (fun _ h9 => h9) rfl dX8_feed_99 ?_
  refine lv_iconst (v := 1) hx hb dX8_feed_102 (by decide) ?_
  refine lv_iadd hx hb dX8_feed_103 ?_
  refine lv_topi (fun x_171 ex_171 => ?_)
  obtain rfl : x_171 = 13 := ex_171.trans (by decide)
  refine va_put (D := (dC, dI)) (ci := 6) (v := .int 13) (ty := .int) (C := RX8) (T := TX8) (N := 39) hx hb hts iX8 tyX8 tyX8_ok nmX8 hown hK hP hD hS 0 rfl rfl 3 (by decide) (hts (.fieldLink RX8 21 "BatchTransferModel" "tapeLen" "I") (by decide +kernel)) (fun _ h9 => h9) rfl (by decide +kernel) rfl rfl (Nat.le_of_ble_eq_true rfl) dX8_feed_104 (fun H locs hP hD hS => ?_)
  have hP : va_P (dC, dI) vwCl [(mo, .inr (6, [.int 0, .ref m1, .ref m2, .int 13, .int 0, .ref m5, .ref m6, .ref m7, .ref m8, .int 0, .ref m10, .ref m11, .ref m12, .ref m13, .ref m14, .int 0, .int 0, .int 0, .ref m18, .int 0, .int 0, .int 0, .int 0, .int 0, .int 0, .int 0, .int 0, .int 0, .int 0, .int 0, .int 0, .int 0, .int 0, .int 0, .ref m34, .ref m35, .ref m36, .ref m37, .int 0])), (m2, .inl (k2, 3100, .inl f_170))] H := hP
  have hD : va_D A [(mo, .inr (6, [.int 0, .ref m1, .ref m2, .int 13, .int 0, .ref m5, .ref m6, .ref m7, .ref m8, .int 0, .ref m10, .ref m11, .ref m12, .ref m13, .ref m14, .int 0, .int 0, .int 0, .ref m18, .int 0, .int 0, .int 0, .int 0, .int 0, .int 0, .int 0, .int 0, .int 0, .int 0, .int 0, .int 0, .int 0, .int 0, .int 0, .ref m34, .ref m35, .ref m36, .ref m37, .int 0])), (m2, .inl (k2, 3100, .inl f_170))] := hD
  refine lv_iinc (v := 13) (lv' := [(6, .int 13), (7, .int n3), (0, .ref mo), (1, .int n0), (2, .int n1), (3, .int n2), (4, .int n3), (5, .int n4)]) hx hb dX8_feed_107 hl (k := 1) rfl (by decide) (by decide) rfl (fun ls hl => ?_)
  refine lv_goto (tgt := 23) hx hb dX8_feed_110 (by decide) ?_
  refine lv_iload hx hb dX8_feed_23 (lv_at hl 0 rfl) ?_
  refine lv_bipush (v := 20) hx hb dX8_feed_25 (by decide) ?_
  refine lv_icmp_ge (tgt := 113) hx hb dX8_feed_27 (by decide) (fun c_172 => absurd c_172 (by decide)) (fun c_172 => ?_)
  refine lv_iload_n hx hb dX8_feed_30 rfl (lv_at hl 3 rfl) ?_
  refine lv_istore (lv' := [(7, .int n0), (6, .int 13), (0, .ref mo), (1, .int n0), (2, .int n1), (3, .int n2), (4, .int n3), (5, .int n4)]) hx hb dX8_feed_31 hl (by decide) rfl (fun ls hl => ?_)
  refine lv_iload hx hb dX8_feed_33 (lv_at hl 1 rfl) ?_
  refine lv_iconst (v := 4) hx hb dX8_feed_35 (by decide) ?_
  refine lv_icmp_lt (tgt := 42) hx hb dX8_feed_36 (by decide) (fun c_173 => absurd c_173 (by decide)) (fun c_173 => ?_)
  refine lv_iload_n hx hb dX8_feed_39 rfl (lv_at hl 4 rfl) ?_
  refine lv_istore (lv' := [(7, .int n1), (6, .int 13), (0, .ref mo), (1, .int n0), (2, .int n1), (3, .int n2), (4, .int n3), (5, .int n4)]) hx hb dX8_feed_40 hl (by decide) rfl (fun ls hl => ?_)
  refine lv_iload hx hb dX8_feed_42 (lv_at hl 1 rfl) ?_
  refine lv_bipush (v := 8) hx hb dX8_feed_44 (by decide) ?_
  refine lv_icmp_lt (tgt := 52) hx hb dX8_feed_46 (by decide) (fun c_174 => absurd c_174 (by decide)) (fun c_174 => ?_)
  refine lv_iload_n hx hb dX8_feed_49 rfl (lv_at hl 5 rfl) ?_
  refine lv_istore (lv' := [(7, .int n2), (6, .int 13), (0, .ref mo), (1, .int n0), (2, .int n1), (3, .int n2), (4, .int n3), (5, .int n4)]) hx hb dX8_feed_50 hl (by decide) rfl (fun ls hl => ?_)
  refine lv_iload hx hb dX8_feed_52 (lv_at hl 1 rfl) ?_
  refine lv_bipush (v := 12) hx hb dX8_feed_54 (by decide) ?_
  refine lv_icmp_lt (tgt := 63) hx hb dX8_feed_56 (by decide) (fun c_175 => absurd c_175 (by decide)) (fun c_175 => ?_)
  refine lv_iload hx hb dX8_feed_59 (lv_at hl 6 rfl) ?_
  refine lv_istore (lv' := [(7, .int n3), (6, .int 13), (0, .ref mo), (1, .int n0), (2, .int n1), (3, .int n2), (4, .int n3), (5, .int n4)]) hx hb dX8_feed_61 hl (by decide) rfl (fun ls hl => ?_)
  refine lv_iload hx hb dX8_feed_63 (lv_at hl 1 rfl) ?_
  refine lv_bipush (v := 16) hx hb dX8_feed_65 (by decide) ?_
  refine lv_icmp_lt (tgt := 74) hx hb dX8_feed_67 (by decide) (fun c_176 => ?_) (fun c_176 => absurd (by decide) c_176)
  refine lv_aload_n hx hb dX8_feed_74 rfl (lv_at hl 2 rfl) ?_
  refine va_get (D := (dC, dI)) (ci := 6) (v := .ref m2) (C := RX8) (T := TX8) (N := 39) hx hb hts iX8 hown hK hP 0 rfl rfl 2 (by decide) (hts (.fieldLink RX8 17 "BatchTransferModel" "tape" "[B") (by decide +kernel)) (fun _ h9 => h9) rfl dX8_feed_75 ?_
  refine lv_aload_n hx hb dX8_feed_78 rfl (lv_at hl 2 rfl) ?_
  refine va_get (D := (dC, dI)) (ci := 6) (v := .int 13) (C := RX8) (T := TX8) (N := 39) hx hb hts iX8 hown hK hP 0 rfl rfl 3 (by decide) (hts (.fieldLink RX8 21 "BatchTransferModel" "tapeLen" "I") (by decide +kernel)) (fun _ h9 => h9) rfl dX8_feed_79 ?_
  refine lv_iload hx hb dX8_feed_82 (lv_at hl 0 rfl) ?_
  refine lv_bipush (v := 24) hx hb dX8_feed_84 (by decide) ?_
  refine lv_bipush (v := 8) hx hb dX8_feed_86 (by decide) ?_
  refine lv_iload hx hb dX8_feed_88 (lv_at hl 1 rfl) ?_
  refine lv_iconst (v := 3) hx hb dX8_feed_90 (by decide) ?_
  refine lv_iand hx hb dX8_feed_91 ?_
  refine lv_topi (fun x_177 ex_177 => ?_)
  obtain rfl : x_177 = 1 := ex_177.trans (by decide)
  refine lv_imul hx hb dX8_feed_92 ?_
  refine lv_topi (fun x_178 ex_178 => ?_)
  obtain rfl : x_178 = 8 := ex_178.trans (by decide)
  refine lv_isub hx hb dX8_feed_93 ?_
  refine lv_topi (fun x_179 ex_179 => ?_)
  obtain rfl : x_179 = 16 := ex_179.trans (by decide)
  refine lv_ishr hx hb dX8_feed_94 ?_
  refine lv_topi (fun x_180 ex_180 => ?_)
  refine lv_i2b hx hb dX8_feed_95 rfl ?_
  refine lv_topi (fun x_181 ex_181 => ?_)
  have h_182 : vp_in (13) 3100 := by unfold vp_in; decide +kernel
  refine va_bast hx hb hK hP hD hS 1 0 rfl rfl h_182 dX8_feed_96 (fun H locs hP hD hS => ?_)
  obtain ⟨f_183, ef_183⟩ : ∃ g : Nat → Int32, g = upd f_170 (13 : Int32).toNatClampNeg (vp_nar .byte x_181) := ⟨_, rfl⟩
  have hP : va_P (dC, dI) vwCl [(mo, .inr (6, [.int 0, .ref m1, .ref m2, .int 13, .int 0, .ref m5, .ref m6, .ref m7, .ref m8, .int 0, .ref m10, .ref m11, .ref m12, .ref m13, .ref m14, .int 0, .int 0, .int 0, .ref m18, .int 0, .int 0, .int 0, .int 0, .int 0, .int 0, .int 0, .int 0, .int 0, .int 0, .int 0, .int 0, .int 0, .int 0, .int 0, .ref m34, .ref m35, .ref m36, .ref m37, .int 0])), (m2, .inl (k2, 3100, .inl f_183))] H := by rw [ef_183]; exact hP
  have hD : va_D A [(mo, .inr (6, [.int 0, .ref m1, .ref m2, .int 13, .int 0, .ref m5, .ref m6, .ref m7, .ref m8, .int 0, .ref m10, .ref m11, .ref m12, .ref m13, .ref m14, .int 0, .int 0, .int 0, .ref m18, .int 0, .int 0, .int 0, .int 0, .int 0, .int 0, .int 0, .int 0, .int 0, .int 0, .int 0, .int 0, .int 0, .int 0, .int 0, .ref m34, .ref m35, .ref m36, .ref m37, .int 0])), (m2, .inl (k2, 3100, .inl f_183))] := by rw [ef_183]; exact hD
  refine lv_aload_n hx hb dX8_feed_97 rfl (lv_at hl 2 rfl) ?_
  refine lv_dup hx hb dX8_feed_98 rfl ?_
  refine va_get (D := (dC, dI)) (ci := 6) (v := .int 13) (C := RX8) (T := TX8) (N := 39) hx hb hts iX8 hown hK hP 0 rfl rfl 3 (by decide) (hts (.fieldLink RX8 21 "BatchTransferModel" "tapeLen" "I") (by decide +kernel)) (fun _ h9 => h9) rfl dX8_feed_99 ?_
  refine lv_iconst (v := 1) hx hb dX8_feed_102 (by decide) ?_
  refine lv_iadd hx hb dX8_feed_103 ?_
  refine lv_topi (fun x_184 ex_184 => ?_)
  obtain rfl : x_184 = 14 := ex_184.trans (by decide)
  refine va_put (D := (dC, dI)) (ci := 6) (v := .int 14) (ty := .int) (C := RX8) (T := TX8) (N := 39) hx hb hts iX8 tyX8 tyX8_ok nmX8 hown hK hP hD hS 0 rfl rfl 3 (by decide) (hts (.fieldLink RX8 21 "BatchTransferModel" "tapeLen" "I") (by decide +kernel)) (fun _ h9 => h9) rfl (by decide +kernel) rfl rfl (Nat.le_of_ble_eq_true rfl) dX8_feed_104 (fun H locs hP hD hS => ?_)
  have hP : va_P (dC, dI) vwCl [(mo, .inr (6, [.int 0, .ref m1, .ref m2, .int 14, .int 0, .ref m5, .ref m6, .ref m7, .ref m8, .int 0, .ref m10, .ref m11, .ref m12, .ref m13, .ref m14, .int 0, .int 0, .int 0, .ref m18, .int 0, .int 0, .int 0, .int 0, .int 0, .int 0, .int 0, .int 0, .int 0, .int 0, .int 0, .int 0, .int 0, .int 0, .int 0, .ref m34, .ref m35, .ref m36, .ref m37, .int 0])), (m2, .inl (k2, 3100, .inl f_183))] H := hP
  have hD : va_D A [(mo, .inr (6, [.int 0, .ref m1, .ref m2, .int 14, .int 0, .ref m5, .ref m6, .ref m7, .ref m8, .int 0, .ref m10, .ref m11, .ref m12, .ref m13, .ref m14, .int 0, .int 0, .int 0, .ref m18, .int 0, .int 0, .int 0, .int 0, .int 0, .int 0, .int 0, .int 0, .int 0, .int 0, .int 0, .int 0, .int 0, .int 0, .int 0, .ref m34, .ref m35, .ref m36, .ref m37, .int 0])), (m2, .inl (k2, 3100, .inl f_183))] := hD
  refine lv_iinc (v := 14) (lv' := [(6, .int 14), (7, .int n3), (0, .ref mo), (1, .int n0), (2, .int n1), (3, .int n2), (4, .int n3), (5, .int n4)]) hx hb dX8_feed_107 hl (k := 1) rfl (by decide) (by decide) rfl (fun ls hl => ?_)
  refine lv_goto (tgt := 23) hx hb dX8_feed_110 (by decide) ?_
  refine lv_iload hx hb dX8_feed_23 (lv_at hl 0 rfl) ?_
  refine lv_bipush (v := 20) hx hb dX8_feed_25 (by decide) ?_
  refine lv_icmp_ge (tgt := 113) hx hb dX8_feed_27 (by decide) (fun c_185 => absurd c_185 (by decide)) (fun c_185 => ?_)
  refine lv_iload_n hx hb dX8_feed_30 rfl (lv_at hl 3 rfl) ?_
  refine lv_istore (lv' := [(7, .int n0), (6, .int 14), (0, .ref mo), (1, .int n0), (2, .int n1), (3, .int n2), (4, .int n3), (5, .int n4)]) hx hb dX8_feed_31 hl (by decide) rfl (fun ls hl => ?_)
  refine lv_iload hx hb dX8_feed_33 (lv_at hl 1 rfl) ?_
  refine lv_iconst (v := 4) hx hb dX8_feed_35 (by decide) ?_
  refine lv_icmp_lt (tgt := 42) hx hb dX8_feed_36 (by decide) (fun c_186 => absurd c_186 (by decide)) (fun c_186 => ?_)
  refine lv_iload_n hx hb dX8_feed_39 rfl (lv_at hl 4 rfl) ?_
  refine lv_istore (lv' := [(7, .int n1), (6, .int 14), (0, .ref mo), (1, .int n0), (2, .int n1), (3, .int n2), (4, .int n3), (5, .int n4)]) hx hb dX8_feed_40 hl (by decide) rfl (fun ls hl => ?_)
  refine lv_iload hx hb dX8_feed_42 (lv_at hl 1 rfl) ?_
  refine lv_bipush (v := 8) hx hb dX8_feed_44 (by decide) ?_
  refine lv_icmp_lt (tgt := 52) hx hb dX8_feed_46 (by decide) (fun c_187 => absurd c_187 (by decide)) (fun c_187 => ?_)
  refine lv_iload_n hx hb dX8_feed_49 rfl (lv_at hl 5 rfl) ?_
  refine lv_istore (lv' := [(7, .int n2), (6, .int 14), (0, .ref mo), (1, .int n0), (2, .int n1), (3, .int n2), (4, .int n3), (5, .int n4)]) hx hb dX8_feed_50 hl (by decide) rfl (fun ls hl => ?_)
  refine lv_iload hx hb dX8_feed_52 (lv_at hl 1 rfl) ?_
  refine lv_bipush (v := 12) hx hb dX8_feed_54 (by decide) ?_
  refine lv_icmp_lt (tgt := 63) hx hb dX8_feed_56 (by decide) (fun c_188 => absurd c_188 (by decide)) (fun c_188 => ?_)
  refine lv_iload hx hb dX8_feed_59 (lv_at hl 6 rfl) ?_
  refine lv_istore (lv' := [(7, .int n3), (6, .int 14), (0, .ref mo), (1, .int n0), (2, .int n1), (3, .int n2), (4, .int n3), (5, .int n4)]) hx hb dX8_feed_61 hl (by decide) rfl (fun ls hl => ?_)
  refine lv_iload hx hb dX8_feed_63 (lv_at hl 1 rfl) ?_
  refine lv_bipush (v := 16) hx hb dX8_feed_65 (by decide) ?_
  refine lv_icmp_lt (tgt := 74) hx hb dX8_feed_67 (by decide) (fun c_189 => ?_) (fun c_189 => absurd (by decide) c_189)
  refine lv_aload_n hx hb dX8_feed_74 rfl (lv_at hl 2 rfl) ?_
  refine va_get (D := (dC, dI)) (ci := 6) (v := .ref m2) (C := RX8) (T := TX8) (N := 39) hx hb hts iX8 hown hK hP 0 rfl rfl 2 (by decide) (hts (.fieldLink RX8 17 "BatchTransferModel" "tape" "[B") (by decide +kernel)) (fun _ h9 => h9) rfl dX8_feed_75 ?_
  refine lv_aload_n hx hb dX8_feed_78 rfl (lv_at hl 2 rfl) ?_
  refine va_get (D := (dC, dI)) (ci := 6) (v := .int 14) (C := RX8) (T := TX8) (N := 39) hx hb hts iX8 hown hK hP 0 rfl rfl 3 (by decide) (hts (.fieldLink RX8 21 "BatchTransferModel" "tapeLen" "I") (by decide +kernel)) (fun _ h9 => h9) rfl dX8_feed_79 ?_
  refine lv_iload hx hb dX8_feed_82 (lv_at hl 0 rfl) ?_
  refine lv_bipush (v := 24) hx hb dX8_feed_84 (by decide) ?_
  refine lv_bipush (v := 8) hx hb dX8_feed_86 (by decide) ?_
  refine lv_iload hx hb dX8_feed_88 (lv_at hl 1 rfl) ?_
  refine lv_iconst (v := 3) hx hb dX8_feed_90 (by decide) ?_
  refine lv_iand hx hb dX8_feed_91 ?_
  refine lv_topi (fun x_190 ex_190 => ?_)
  obtain rfl : x_190 = 2 := ex_190.trans (by decide)
  refine lv_imul hx hb dX8_feed_92 ?_
  refine lv_topi (fun x_191 ex_191 => ?_)
  obtain rfl : x_191 = 16 := ex_191.trans (by decide)
  refine lv_isub hx hb dX8_feed_93 ?_
  refine lv_topi (fun x_192 ex_192 => ?_)
  obtain rfl : x_192 = 8 := ex_192.trans (by decide)
  refine lv_ishr hx hb dX8_feed_94 ?_
  refine lv_topi (fun x_193 ex_193 => ?_)
  refine lv_i2b hx hb dX8_feed_95 rfl ?_
  refine lv_topi (fun x_194 ex_194 => ?_)
  have h_195 : vp_in (14) 3100 := by unfold vp_in; decide +kernel
  refine va_bast hx hb hK hP hD hS 1 0 rfl rfl h_195 dX8_feed_96 (fun H locs hP hD hS => ?_)
  obtain ⟨f_196, ef_196⟩ : ∃ g : Nat → Int32, g = upd f_183 (14 : Int32).toNatClampNeg (vp_nar .byte x_194) := ⟨_, rfl⟩
  have hP : va_P (dC, dI) vwCl [(mo, .inr (6, [.int 0, .ref m1, .ref m2, .int 14, .int 0, .ref m5, .ref m6, .ref m7, .ref m8, .int 0, .ref m10, .ref m11, .ref m12, .ref m13, .ref m14, .int 0, .int 0, .int 0, .ref m18, .int 0, .int 0, .int 0, .int 0, .int 0, .int 0, .int 0, .int 0, .int 0, .int 0, .int 0, .int 0, .int 0, .int 0, .int 0, .ref m34, .ref m35, .ref m36, .ref m37, .int 0])), (m2, .inl (k2, 3100, .inl f_196))] H := by rw [ef_196]; exact hP
  have hD : va_D A [(mo, .inr (6, [.int 0, .ref m1, .ref m2, .int 14, .int 0, .ref m5, .ref m6, .ref m7, .ref m8, .int 0, .ref m10, .ref m11, .ref m12, .ref m13, .ref m14, .int 0, .int 0, .int 0, .ref m18, .int 0, .int 0, .int 0, .int 0, .int 0, .int 0, .int 0, .int 0, .int 0, .int 0, .int 0, .int 0, .int 0, .int 0, .int 0, .ref m34, .ref m35, .ref m36, .ref m37, .int 0])), (m2, .inl (k2, 3100, .inl f_196))] := by rw [ef_196]; exact hD
  refine lv_aload_n hx hb dX8_feed_97 rfl (lv_at hl 2 rfl) ?_
  refine lv_dup hx hb dX8_feed_98 rfl ?_
  refine va_get (D := (dC, dI)) (ci := 6) (v := .int 14) (C := RX8) (T := TX8) (N := 39) hx hb hts iX8 hown hK hP 0 rfl rfl 3 (by decide) (hts (.fieldLink RX8 21 "BatchTransferModel" "tapeLen" "I") (by decide +kernel)) (fun _ h9 => h9) rfl dX8_feed_99 ?_
  refine lv_iconst (v := 1) hx hb dX8_feed_102 (by decide) ?_
  refine lv_iadd hx hb dX8_feed_103 ?_
  refine lv_topi (fun x_197 ex_197 => ?_)
  obtain rfl : x_197 = 15 := ex_197.trans (by decide)
  refine va_put (D := (dC, dI)) (ci := 6) (v := .int 15) (ty := .int) (C := RX8) (T := TX8) (N := 39) hx hb hts iX8 tyX8 tyX8_ok nmX8 hown hK hP hD hS 0 rfl rfl 3 (by decide) (hts (.fieldLink RX8 21 "BatchTransferModel" "tapeLen" "I") (by decide +kernel)) (fun _ h9 => h9) rfl (by decide +kernel) rfl rfl (Nat.le_of_ble_eq_true rfl) dX8_feed_104 (fun H locs hP hD hS => ?_)
  have hP : va_P (dC, dI) vwCl [(mo, .inr (6, [.int 0, .ref m1, .ref m2, .int 15, .int 0, .ref m5, .ref m6, .ref m7, .ref m8, .int 0, .ref m10, .ref m11, .ref m12, .ref m13, .ref m14, .int 0, .int 0, .int 0, .ref m18, .int 0, .int 0, .int 0, .int 0, .int 0, .int 0, .int 0, .int 0, .int 0, .int 0, .int 0, .int 0, .int 0, .int 0, .int 0, .ref m34, .ref m35, .ref m36, .ref m37, .int 0])), (m2, .inl (k2, 3100, .inl f_196))] H := hP
  have hD : va_D A [(mo, .inr (6, [.int 0, .ref m1, .ref m2, .int 15, .int 0, .ref m5, .ref m6, .ref m7, .ref m8, .int 0, .ref m10, .ref m11, .ref m12, .ref m13, .ref m14, .int 0, .int 0, .int 0, .ref m18, .int 0, .int 0, .int 0, .int 0, .int 0, .int 0, .int 0, .int 0, .int 0, .int 0, .int 0, .int 0, .int 0, .int 0, .int 0, .ref m34, .ref m35, .ref m36, .ref m37, .int 0])), (m2, .inl (k2, 3100, .inl f_196))] := hD
  refine lv_iinc (v := 15) (lv' := [(6, .int 15), (7, .int n3), (0, .ref mo), (1, .int n0), (2, .int n1), (3, .int n2), (4, .int n3), (5, .int n4)]) hx hb dX8_feed_107 hl (k := 1) rfl (by decide) (by decide) rfl (fun ls hl => ?_)
  refine lv_goto (tgt := 23) hx hb dX8_feed_110 (by decide) ?_
  refine lv_iload hx hb dX8_feed_23 (lv_at hl 0 rfl) ?_
  refine lv_bipush (v := 20) hx hb dX8_feed_25 (by decide) ?_
  refine lv_icmp_ge (tgt := 113) hx hb dX8_feed_27 (by decide) (fun c_198 => absurd c_198 (by decide)) (fun c_198 => ?_)
  refine lv_iload_n hx hb dX8_feed_30 rfl (lv_at hl 3 rfl) ?_
  refine lv_istore (lv' := [(7, .int n0), (6, .int 15), (0, .ref mo), (1, .int n0), (2, .int n1), (3, .int n2), (4, .int n3), (5, .int n4)]) hx hb dX8_feed_31 hl (by decide) rfl (fun ls hl => ?_)
  refine lv_iload hx hb dX8_feed_33 (lv_at hl 1 rfl) ?_
  refine lv_iconst (v := 4) hx hb dX8_feed_35 (by decide) ?_
  refine lv_icmp_lt (tgt := 42) hx hb dX8_feed_36 (by decide) (fun c_199 => absurd c_199 (by decide)) (fun c_199 => ?_)
  refine lv_iload_n hx hb dX8_feed_39 rfl (lv_at hl 4 rfl) ?_
  refine lv_istore (lv' := [(7, .int n1), (6, .int 15), (0, .ref mo), (1, .int n0), (2, .int n1), (3, .int n2), (4, .int n3), (5, .int n4)]) hx hb dX8_feed_40 hl (by decide) rfl (fun ls hl => ?_)
  refine lv_iload hx hb dX8_feed_42 (lv_at hl 1 rfl) ?_
  refine lv_bipush (v := 8) hx hb dX8_feed_44 (by decide) ?_
  refine lv_icmp_lt (tgt := 52) hx hb dX8_feed_46 (by decide) (fun c_200 => absurd c_200 (by decide)) (fun c_200 => ?_)
  refine lv_iload_n hx hb dX8_feed_49 rfl (lv_at hl 5 rfl) ?_
  refine lv_istore (lv' := [(7, .int n2), (6, .int 15), (0, .ref mo), (1, .int n0), (2, .int n1), (3, .int n2), (4, .int n3), (5, .int n4)]) hx hb dX8_feed_50 hl (by decide) rfl (fun ls hl => ?_)
  refine lv_iload hx hb dX8_feed_52 (lv_at hl 1 rfl) ?_
  refine lv_bipush (v := 12) hx hb dX8_feed_54 (by decide) ?_
  refine lv_icmp_lt (tgt := 63) hx hb dX8_feed_56 (by decide) (fun c_201 => absurd c_201 (by decide)) (fun c_201 => ?_)
  refine lv_iload hx hb dX8_feed_59 (lv_at hl 6 rfl) ?_
  refine lv_istore (lv' := [(7, .int n3), (6, .int 15), (0, .ref mo), (1, .int n0), (2, .int n1), (3, .int n2), (4, .int n3), (5, .int n4)]) hx hb dX8_feed_61 hl (by decide) rfl (fun ls hl => ?_)
  refine lv_iload hx hb dX8_feed_63 (lv_at hl 1 rfl) ?_
  refine lv_bipush (v := 16) hx hb dX8_feed_65 (by decide) ?_
  refine lv_icmp_lt (tgt := 74) hx hb dX8_feed_67 (by decide) (fun c_202 => ?_) (fun c_202 => absurd (by decide) c_202)
  refine lv_aload_n hx hb dX8_feed_74 rfl (lv_at hl 2 rfl) ?_
  refine va_get (D := (dC, dI)) (ci := 6) (v := .ref m2) (C := RX8) (T := TX8) (N := 39) hx hb hts iX8 hown hK hP 0 rfl rfl 2 (by decide) (hts (.fieldLink RX8 17 "BatchTransferModel" "tape" "[B") (by decide +kernel)) (fun _ h9 => h9) rfl dX8_feed_75 ?_
  refine lv_aload_n hx hb dX8_feed_78 rfl (lv_at hl 2 rfl) ?_
  refine va_get (D := (dC, dI)) (ci := 6) (v := .int 15) (C := RX8) (T := TX8) (N := 39) hx hb hts iX8 hown hK hP 0 rfl rfl 3 (by decide) (hts (.fieldLink RX8 21 "BatchTransferModel" "tapeLen" "I") (by decide +kernel)) (fun _ h9 => h9) rfl dX8_feed_79 ?_
  refine lv_iload hx hb dX8_feed_82 (lv_at hl 0 rfl) ?_
  refine lv_bipush (v := 24) hx hb dX8_feed_84 (by decide) ?_
  refine lv_bipush (v := 8) hx hb dX8_feed_86 (by decide) ?_
  refine lv_iload hx hb dX8_feed_88 (lv_at hl 1 rfl) ?_
  refine lv_iconst (v := 3) hx hb dX8_feed_90 (by decide) ?_
  refine lv_iand hx hb dX8_feed_91 ?_
  refine lv_topi (fun x_203 ex_203 => ?_)
  obtain rfl : x_203 = 3 := ex_203.trans (by decide)
  refine lv_imul hx hb dX8_feed_92 ?_
  refine lv_topi (fun x_204 ex_204 => ?_)
  obtain rfl : x_204 = 24 := ex_204.trans (by decide)
  refine lv_isub hx hb dX8_feed_93 ?_
  refine lv_topi (fun x_205 ex_205 => ?_)
  obtain rfl : x_205 = 0 := ex_205.trans (by decide)
  refine lv_ishr hx hb dX8_feed_94 ?_
  refine lv_topi (fun x_206 ex_206 => ?_)
  refine lv_i2b hx hb dX8_feed_95 rfl ?_
  refine lv_topi (fun x_207 ex_207 => ?_)
  have h_208 : vp_in (15) 3100 := by unfold vp_in; decide +kernel
  refine va_bast hx hb hK hP hD hS 1 0 rfl rfl h_208 dX8_feed_96 (fun H locs hP hD hS => ?_)
  obtain ⟨f_209, ef_209⟩ : ∃ g : Nat → Int32, g = upd f_196 (15 : Int32).toNatClampNeg (vp_nar .byte x_207) := ⟨_, rfl⟩
  have hP : va_P (dC, dI) vwCl [(mo, .inr (6, [.int 0, .ref m1, .ref m2, .int 15, .int 0, .ref m5, .ref m6, .ref m7, .ref m8, .int 0, .ref m10, .ref m11, .ref m12, .ref m13, .ref m14, .int 0, .int 0, .int 0, .ref m18, .int 0, .int 0, .int 0, .int 0, .int 0, .int 0, .int 0, .int 0, .int 0, .int 0, .int 0, .int 0, .int 0, .int 0, .int 0, .ref m34, .ref m35, .ref m36, .ref m37, .int 0])), (m2, .inl (k2, 3100, .inl f_209))] H := by rw [ef_209]; exact hP
  have hD : va_D A [(mo, .inr (6, [.int 0, .ref m1, .ref m2, .int 15, .int 0, .ref m5, .ref m6, .ref m7, .ref m8, .int 0, .ref m10, .ref m11, .ref m12, .ref m13, .ref m14, .int 0, .int 0, .int 0, .ref m18, .int 0, .int 0, .int 0, .int 0, .int 0, .int 0, .int 0, .int 0, .int 0, .int 0, .int 0, .int 0, .int 0, .int 0, .int 0, .ref m34, .ref m35, .ref m36, .ref m37, .int 0])), (m2, .inl (k2, 3100, .inl f_209))] := by rw [ef_209]; exact hD
  refine lv_aload_n hx hb dX8_feed_97 rfl (lv_at hl 2 rfl) ?_
  refine lv_dup hx hb dX8_feed_98 rfl ?_
  refine va_get (D := (dC, dI)) (ci := 6) (v := .int 15) (C := RX8) (T := TX8) (N := 39) hx hb hts iX8 hown hK hP 0 rfl rfl 3 (by decide) (hts (.fieldLink RX8 21 "BatchTransferModel" "tapeLen" "I") (by decide +kernel)) (fun _ h9 => h9) rfl dX8_feed_99 ?_
  refine lv_iconst (v := 1) hx hb dX8_feed_102 (by decide) ?_
  refine lv_iadd hx hb dX8_feed_103 ?_
  refine lv_topi (fun x_210 ex_210 => ?_)
  obtain rfl : x_210 = 16 := ex_210.trans (by decide)
  refine va_put (D := (dC, dI)) (ci := 6) (v := .int 16) (ty := .int) (C := RX8) (T := TX8) (N := 39) hx hb hts iX8 tyX8 tyX8_ok nmX8 hown hK hP hD hS 0 rfl rfl 3 (by decide) (hts (.fieldLink RX8 21 "BatchTransferModel" "tapeLen" "I") (by decide +kernel)) (fun _ h9 => h9) rfl (by decide +kernel) rfl rfl (Nat.le_of_ble_eq_true rfl) dX8_feed_104 (fun H locs hP hD hS => ?_)
  have hP : va_P (dC, dI) vwCl [(mo, .inr (6, [.int 0, .ref m1, .ref m2, .int 16, .int 0, .ref m5, .ref m6, .ref m7, .ref m8, .int 0, .ref m10, .ref m11, .ref m12, .ref m13, .ref m14, .int 0, .int 0, .int 0, .ref m18, .int 0, .int 0, .int 0, .int 0, .int 0, .int 0, .int 0, .int 0, .int 0, .int 0, .int 0, .int 0, .int 0, .int 0, .int 0, .ref m34, .ref m35, .ref m36, .ref m37, .int 0])), (m2, .inl (k2, 3100, .inl f_209))] H := hP
  have hD : va_D A [(mo, .inr (6, [.int 0, .ref m1, .ref m2, .int 16, .int 0, .ref m5, .ref m6, .ref m7, .ref m8, .int 0, .ref m10, .ref m11, .ref m12, .ref m13, .ref m14, .int 0, .int 0, .int 0, .ref m18, .int 0, .int 0, .int 0, .int 0, .int 0, .int 0, .int 0, .int 0, .int 0, .int 0, .int 0, .int 0, .int 0, .int 0, .int 0, .ref m34, .ref m35, .ref m36, .ref m37, .int 0])), (m2, .inl (k2, 3100, .inl f_209))] := hD
  refine lv_iinc (v := 16) (lv' := [(6, .int 16), (7, .int n3), (0, .ref mo), (1, .int n0), (2, .int n1), (3, .int n2), (4, .int n3), (5, .int n4)]) hx hb dX8_feed_107 hl (k := 1) rfl (by decide) (by decide) rfl (fun ls hl => ?_)
  refine lv_goto (tgt := 23) hx hb dX8_feed_110 (by decide) ?_
  refine lv_iload hx hb dX8_feed_23 (lv_at hl 0 rfl) ?_
  refine lv_bipush (v := 20) hx hb dX8_feed_25 (by decide) ?_
  refine lv_icmp_ge (tgt := 113) hx hb dX8_feed_27 (by decide) (fun c_211 => absurd c_211 (by decide)) (fun c_211 => ?_)
  refine lv_iload_n hx hb dX8_feed_30 rfl (lv_at hl 3 rfl) ?_
  refine lv_istore (lv' := [(7, .int n0), (6, .int 16), (0, .ref mo), (1, .int n0), (2, .int n1), (3, .int n2), (4, .int n3), (5, .int n4)]) hx hb dX8_feed_31 hl (by decide) rfl (fun ls hl => ?_)
  refine lv_iload hx hb dX8_feed_33 (lv_at hl 1 rfl) ?_
  refine lv_iconst (v := 4) hx hb dX8_feed_35 (by decide) ?_
  refine lv_icmp_lt (tgt := 42) hx hb dX8_feed_36 (by decide) (fun c_212 => absurd c_212 (by decide)) (fun c_212 => ?_)
  refine lv_iload_n hx hb dX8_feed_39 rfl (lv_at hl 4 rfl) ?_
  refine lv_istore (lv' := [(7, .int n1), (6, .int 16), (0, .ref mo), (1, .int n0), (2, .int n1), (3, .int n2), (4, .int n3), (5, .int n4)]) hx hb dX8_feed_40 hl (by decide) rfl (fun ls hl => ?_)
  refine lv_iload hx hb dX8_feed_42 (lv_at hl 1 rfl) ?_
  refine lv_bipush (v := 8) hx hb dX8_feed_44 (by decide) ?_
  refine lv_icmp_lt (tgt := 52) hx hb dX8_feed_46 (by decide) (fun c_213 => absurd c_213 (by decide)) (fun c_213 => ?_)
  refine lv_iload_n hx hb dX8_feed_49 rfl (lv_at hl 5 rfl) ?_
  refine lv_istore (lv' := [(7, .int n2), (6, .int 16), (0, .ref mo), (1, .int n0), (2, .int n1), (3, .int n2), (4, .int n3), (5, .int n4)]) hx hb dX8_feed_50 hl (by decide) rfl (fun ls hl => ?_)
  refine lv_iload hx hb dX8_feed_52 (lv_at hl 1 rfl) ?_
  refine lv_bipush (v := 12) hx hb dX8_feed_54 (by decide) ?_
  refine lv_icmp_lt (tgt := 63) hx hb dX8_feed_56 (by decide) (fun c_214 => absurd c_214 (by decide)) (fun c_214 => ?_)
  refine lv_iload hx hb dX8_feed_59 (lv_at hl 6 rfl) ?_
  refine lv_istore (lv' := [(7, .int n3), (6, .int 16), (0, .ref mo), (1, .int n0), (2, .int n1), (3, .int n2), (4, .int n3), (5, .int n4)]) hx hb dX8_feed_61 hl (by decide) rfl (fun ls hl => ?_)
  refine lv_iload hx hb dX8_feed_63 (lv_at hl 1 rfl) ?_
  refine lv_bipush (v := 16) hx hb dX8_feed_65 (by decide) ?_
  refine lv_icmp_lt (tgt := 74) hx hb dX8_feed_67 (by decide) (fun c_215 => absurd c_215 (by decide)) (fun c_215 => ?_)
  refine lv_iload hx hb dX8_feed_70 (lv_at hl 7 rfl) ?_
  refine lv_istore (lv' := [(7, .int n4), (6, .int 16), (0, .ref mo), (1, .int n0), (2, .int n1), (3, .int n2), (4, .int n3), (5, .int n4)]) hx hb dX8_feed_72 hl (by decide) rfl (fun ls hl => ?_)
  refine lv_aload_n hx hb dX8_feed_74 rfl (lv_at hl 2 rfl) ?_
  refine va_get (D := (dC, dI)) (ci := 6) (v := .ref m2) (C := RX8) (T := TX8) (N := 39) hx hb hts iX8 hown hK hP 0 rfl rfl 2 (by decide) (hts (.fieldLink RX8 17 "BatchTransferModel" "tape" "[B") (by decide +kernel)) (fun _ h9 => h9) rfl dX8_feed_75 ?_
  refine lv_aload_n hx hb dX8_feed_78 rfl (lv_at hl 2 rfl) ?_
  refine va_get (D := (dC, dI)) (ci := 6) (v := .int 16) (C := RX8) (T := TX8) (N := 39) hx hb hts iX8 hown hK hP 0 rfl rfl 3 (by decide) (hts (.fieldLink RX8 21 "BatchTransferModel" "tapeLen" "I") (by decide +kernel)) (fun _ h9 => h9) rfl dX8_feed_79 ?_
  refine lv_iload hx hb dX8_feed_82 (lv_at hl 0 rfl) ?_
  refine lv_bipush (v := 24) hx hb dX8_feed_84 (by decide) ?_
  refine lv_bipush (v := 8) hx hb dX8_feed_86 (by decide) ?_
  refine lv_iload hx hb dX8_feed_88 (lv_at hl 1 rfl) ?_
  refine lv_iconst (v := 3) hx hb dX8_feed_90 (by decide) ?_
  refine lv_iand hx hb dX8_feed_91 ?_
  refine lv_topi (fun x_216 ex_216 => ?_)
  obtain rfl : x_216 = 0 := ex_216.trans (by decide)
  refine lv_imul hx hb dX8_feed_92 ?_
  refine lv_topi (fun x_217 ex_217 => ?_)
  obtain rfl : x_217 = 0 := ex_217.trans (by decide)
  refine lv_isub hx hb dX8_feed_93 ?_
  refine lv_topi (fun x_218 ex_218 => ?_)
  obtain rfl : x_218 = 24 := ex_218.trans (by decide)
  refine lv_ishr hx hb dX8_feed_94 ?_
  refine lv_topi (fun x_219 ex_219 => ?_)
  refine lv_i2b hx hb dX8_feed_95 rfl ?_
  refine lv_topi (fun x_220 ex_220 => ?_)
  have h_221 : vp_in (16) 3100 := by unfold vp_in; decide +kernel
  refine va_bast hx hb hK hP hD hS 1 0 rfl rfl h_221 dX8_feed_96 (fun H locs hP hD hS => ?_)
  obtain ⟨f_222, ef_222⟩ : ∃ g : Nat → Int32, g = upd f_209 (16 : Int32).toNatClampNeg (vp_nar .byte x_220) := ⟨_, rfl⟩
  have hP : va_P (dC, dI) vwCl [(mo, .inr (6, [.int 0, .ref m1, .ref m2, .int 16, .int 0, .ref m5, .ref m6, .ref m7, .ref m8, .int 0, .ref m10, .ref m11, .ref m12, .ref m13, .ref m14, .int 0, .int 0, .int 0, .ref m18, .int 0, .int 0, .int 0, .int 0, .int 0, .int 0, .int 0, .int 0, .int 0, .int 0, .int 0, .int 0, .int 0, .int 0, .int 0, .ref m34, .ref m35, .ref m36, .ref m37, .int 0])), (m2, .inl (k2, 3100, .inl f_222))] H := by rw [ef_222]; exact hP
  have hD : va_D A [(mo, .inr (6, [.int 0, .ref m1, .ref m2, .int 16, .int 0, .ref m5, .ref m6, .ref m7, .ref m8, .int 0, .ref m10, .ref m11, .ref m12, .ref m13, .ref m14, .int 0, .int 0, .int 0, .ref m18, .int 0, .int 0, .int 0, .int 0, .int 0, .int 0, .int 0, .int 0, .int 0, .int 0, .int 0, .int 0, .int 0, .int 0, .int 0, .ref m34, .ref m35, .ref m36, .ref m37, .int 0])), (m2, .inl (k2, 3100, .inl f_222))] := by rw [ef_222]; exact hD
  refine lv_aload_n hx hb dX8_feed_97 rfl (lv_at hl 2 rfl) ?_
  refine lv_dup hx hb dX8_feed_98 rfl ?_
  refine va_get (D := (dC, dI)) (ci := 6) (v := .int 16) (C := RX8) (T := TX8) (N := 39) hx hb hts iX8 hown hK hP 0 rfl rfl 3 (by decide) (hts (.fieldLink RX8 21 "BatchTransferModel" "tapeLen" "I") (by decide +kernel)) (fun _ h9 => h9) rfl dX8_feed_99 ?_
  refine lv_iconst (v := 1) hx hb dX8_feed_102 (by decide) ?_
  refine lv_iadd hx hb dX8_feed_103 ?_
  refine lv_topi (fun x_223 ex_223 => ?_)
  obtain rfl : x_223 = 17 := ex_223.trans (by decide)
  refine va_put (D := (dC, dI)) (ci := 6) (v := .int 17) (ty := .int) (C := RX8) (T := TX8) (N := 39) hx hb hts iX8 tyX8 tyX8_ok nmX8 hown hK hP hD hS 0 rfl rfl 3 (by decide) (hts (.fieldLink RX8 21 "BatchTransferModel" "tapeLen" "I") (by decide +kernel)) (fun _ h9 => h9) rfl (by decide +kernel) rfl rfl (Nat.le_of_ble_eq_true rfl) dX8_feed_104 (fun H locs hP hD hS => ?_)
  have hP : va_P (dC, dI) vwCl [(mo, .inr (6, [.int 0, .ref m1, .ref m2, .int 17, .int 0, .ref m5, .ref m6, .ref m7, .ref m8, .int 0, .ref m10, .ref m11, .ref m12, .ref m13, .ref m14, .int 0, .int 0, .int 0, .ref m18, .int 0, .int 0, .int 0, .int 0, .int 0, .int 0, .int 0, .int 0, .int 0, .int 0, .int 0, .int 0, .int 0, .int 0, .int 0, .ref m34, .ref m35, .ref m36, .ref m37, .int 0])), (m2, .inl (k2, 3100, .inl f_222))] H := hP
  have hD : va_D A [(mo, .inr (6, [.int 0, .ref m1, .ref m2, .int 17, .int 0, .ref m5, .ref m6, .ref m7, .ref m8, .int 0, .ref m10, .ref m11, .ref m12, .ref m13, .ref m14, .int 0, .int 0, .int 0, .ref m18, .int 0, .int 0, .int 0, .int 0, .int 0, .int 0, .int 0, .int 0, .int 0, .int 0, .int 0, .int 0, .int 0, .int 0, .int 0, .ref m34, .ref m35, .ref m36, .ref m37, .int 0])), (m2, .inl (k2, 3100, .inl f_222))] := hD
  refine lv_iinc (v := 17) (lv' := [(6, .int 17), (7, .int n4), (0, .ref mo), (1, .int n0), (2, .int n1), (3, .int n2), (4, .int n3), (5, .int n4)]) hx hb dX8_feed_107 hl (k := 1) rfl (by decide) (by decide) rfl (fun ls hl => ?_)
  refine lv_goto (tgt := 23) hx hb dX8_feed_110 (by decide) ?_
  refine lv_iload hx hb dX8_feed_23 (lv_at hl 0 rfl) ?_
  refine lv_bipush (v := 20) hx hb dX8_feed_25 (by decide) ?_
  refine lv_icmp_ge (tgt := 113) hx hb dX8_feed_27 (by decide) (fun c_224 => absurd c_224 (by decide)) (fun c_224 => ?_)
  refine lv_iload_n hx hb dX8_feed_30 rfl (lv_at hl 3 rfl) ?_
  refine lv_istore (lv' := [(7, .int n0), (6, .int 17), (0, .ref mo), (1, .int n0), (2, .int n1), (3, .int n2), (4, .int n3), (5, .int n4)]) hx hb dX8_feed_31 hl (by decide) rfl (fun ls hl => ?_)
  refine lv_iload hx hb dX8_feed_33 (lv_at hl 1 rfl) ?_
  refine lv_iconst (v := 4) hx hb dX8_feed_35 (by decide) ?_
  refine lv_icmp_lt (tgt := 42) hx hb dX8_feed_36 (by decide) (fun c_225 => absurd c_225 (by decide)) (fun c_225 => ?_)
  refine lv_iload_n hx hb dX8_feed_39 rfl (lv_at hl 4 rfl) ?_
  refine lv_istore (lv' := [(7, .int n1), (6, .int 17), (0, .ref mo), (1, .int n0), (2, .int n1), (3, .int n2), (4, .int n3), (5, .int n4)]) hx hb dX8_feed_40 hl (by decide) rfl (fun ls hl => ?_)
  refine lv_iload hx hb dX8_feed_42 (lv_at hl 1 rfl) ?_
  refine lv_bipush (v := 8) hx hb dX8_feed_44 (by decide) ?_
  refine lv_icmp_lt (tgt := 52) hx hb dX8_feed_46 (by decide) (fun c_226 => absurd c_226 (by decide)) (fun c_226 => ?_)
  refine lv_iload_n hx hb dX8_feed_49 rfl (lv_at hl 5 rfl) ?_
  refine lv_istore (lv' := [(7, .int n2), (6, .int 17), (0, .ref mo), (1, .int n0), (2, .int n1), (3, .int n2), (4, .int n3), (5, .int n4)]) hx hb dX8_feed_50 hl (by decide) rfl (fun ls hl => ?_)
  refine lv_iload hx hb dX8_feed_52 (lv_at hl 1 rfl) ?_
  refine lv_bipush (v := 12) hx hb dX8_feed_54 (by decide) ?_
  refine lv_icmp_lt (tgt := 63) hx hb dX8_feed_56 (by decide) (fun c_227 => absurd c_227 (by decide)) (fun c_227 => ?_)
  refine lv_iload hx hb dX8_feed_59 (lv_at hl 6 rfl) ?_
  refine lv_istore (lv' := [(7, .int n3), (6, .int 17), (0, .ref mo), (1, .int n0), (2, .int n1), (3, .int n2), (4, .int n3), (5, .int n4)]) hx hb dX8_feed_61 hl (by decide) rfl (fun ls hl => ?_)
  refine lv_iload hx hb dX8_feed_63 (lv_at hl 1 rfl) ?_
  refine lv_bipush (v := 16) hx hb dX8_feed_65 (by decide) ?_
  refine lv_icmp_lt (tgt := 74) hx hb dX8_feed_67 (by decide) (fun c_228 => absurd c_228 (by decide)) (fun c_228 => ?_)
  refine lv_iload hx hb dX8_feed_70 (lv_at hl 7 rfl) ?_
  refine lv_istore (lv' := [(7, .int n4), (6, .int 17), (0, .ref mo), (1, .int n0), (2, .int n1), (3, .int n2), (4, .int n3), (5, .int n4)]) hx hb dX8_feed_72 hl (by decide) rfl (fun ls hl => ?_)
  refine lv_aload_n hx hb dX8_feed_74 rfl (lv_at hl 2 rfl) ?_
  refine va_get (D := (dC, dI)) (ci := 6) (v := .ref m2) (C := RX8) (T := TX8) (N := 39) hx hb hts iX8 hown hK hP 0 rfl rfl 2 (by decide) (hts (.fieldLink RX8 17 "BatchTransferModel" "tape" "[B") (by decide +kernel)) (fun _ h9 => h9) rfl dX8_feed_75 ?_
  refine lv_aload_n hx hb dX8_feed_78 rfl (lv_at hl 2 rfl) ?_
  refine va_get (D := (dC, dI)) (ci := 6) (v := .int 17) (C := RX8) (T := TX8) (N := 39) hx hb hts iX8 hown hK hP 0 rfl rfl 3 (by decide) (hts (.fieldLink RX8 21 "BatchTransferModel" "tapeLen" "I") (by decide +kernel)) (fun _ h9 => h9) rfl dX8_feed_79 ?_
  refine lv_iload hx hb dX8_feed_82 (lv_at hl 0 rfl) ?_
  refine lv_bipush (v := 24) hx hb dX8_feed_84 (by decide) ?_
  refine lv_bipush (v := 8) hx hb dX8_feed_86 (by decide) ?_
  refine lv_iload hx hb dX8_feed_88 (lv_at hl 1 rfl) ?_
  refine lv_iconst (v := 3) hx hb dX8_feed_90 (by decide) ?_
  refine lv_iand hx hb dX8_feed_91 ?_
  refine lv_topi (fun x_229 ex_229 => ?_)
  obtain rfl : x_229 = 1 := ex_229.trans (by decide)
  refine lv_imul hx hb dX8_feed_92 ?_
  refine lv_topi (fun x_230 ex_230 => ?_)
  obtain rfl : x_230 = 8 := ex_230.trans (by decide)
  refine lv_isub hx hb dX8_feed_93 ?_
  refine lv_topi (fun x_231 ex_231 => ?_)
  obtain rfl : x_231 = 16 := ex_231.trans (by decide)
  refine lv_ishr hx hb dX8_feed_94 ?_
  refine lv_topi (fun x_232 ex_232 => ?_)
  refine lv_i2b hx hb dX8_feed_95 rfl ?_
  refine lv_topi (fun x_233 ex_233 => ?_)
  have h_234 : vp_in (17) 3100 := by unfold vp_in; decide +kernel
  refine va_bast hx hb hK hP hD hS 1 0 rfl rfl h_234 dX8_feed_96 (fun H locs hP hD hS => ?_)
  obtain ⟨f_235, ef_235⟩ : ∃ g : Nat → Int32, g = upd f_222 (17 : Int32).toNatClampNeg (vp_nar .byte x_233) := ⟨_, rfl⟩
  have hP : va_P (dC, dI) vwCl [(mo, .inr (6, [.int 0, .ref m1, .ref m2, .int 17, .int 0, .ref m5, .ref m6, .ref m7, .ref m8, .int 0, .ref m10, .ref m11, .ref m12, .ref m13, .ref m14, .int 0, .int 0, .int 0, .ref m18, .int 0, .int 0, .int 0, .int 0, .int 0, .int 0, .int 0, .int 0, .int 0, .int 0, .int 0, .int 0, .int 0, .int 0, .int 0, .ref m34, .ref m35, .ref m36, .ref m37, .int 0])), (m2, .inl (k2, 3100, .inl f_235))] H := by rw [ef_235]; exact hP
  have hD : va_D A [(mo, .inr (6, [.int 0, .ref m1, .ref m2, .int 17, .int 0, .ref m5, .ref m6, .ref m7, .ref m8, .int 0, .ref m10, .ref m11, .ref m12, .ref m13, .ref m14, .int 0, .int 0, .int 0, .ref m18, .int 0, .int 0, .int 0, .int 0, .int 0, .int 0, .int 0, .int 0, .int 0, .int 0, .int 0, .int 0, .int 0, .int 0, .int 0, .ref m34, .ref m35, .ref m36, .ref m37, .int 0])), (m2, .inl (k2, 3100, .inl f_235))] := by rw [ef_235]; exact hD
  refine lv_aload_n hx hb dX8_feed_97 rfl (lv_at hl 2 rfl) ?_
  refine lv_dup hx hb dX8_feed_98 rfl ?_
  refine va_get (D := (dC, dI)) (ci := 6) (v := .int 17) (C := RX8) (T := TX8) (N := 39) hx hb hts iX8 hown hK hP 0 rfl rfl 3 (by decide) (hts (.fieldLink RX8 21 "BatchTransferModel" "tapeLen" "I") (by decide +kernel)) (fun _ h9 => h9) rfl dX8_feed_99 ?_
  refine lv_iconst (v := 1) hx hb dX8_feed_102 (by decide) ?_
  refine lv_iadd hx hb dX8_feed_103 ?_
  refine lv_topi (fun x_236 ex_236 => ?_)
  obtain rfl : x_236 = 18 := ex_236.trans (by decide)
  refine va_put (D := (dC, dI)) (ci := 6) (v := .int 18) (ty := .int) (C := RX8) (T := TX8) (N := 39) hx hb hts iX8 tyX8 tyX8_ok nmX8 hown hK hP hD hS 0 rfl rfl 3 (by decide) (hts (.fieldLink RX8 21 "BatchTransferModel" "tapeLen" "I") (by decide +kernel)) (fun _ h9 => h9) rfl (by decide +kernel) rfl rfl (Nat.le_of_ble_eq_true rfl) dX8_feed_104 (fun H locs hP hD hS => ?_)
  have hP : va_P (dC, dI) vwCl [(mo, .inr (6, [.int 0, .ref m1, .ref m2, .int 18, .int 0, .ref m5, .ref m6, .ref m7, .ref m8, .int 0, .ref m10, .ref m11, .ref m12, .ref m13, .ref m14, .int 0, .int 0, .int 0, .ref m18, .int 0, .int 0, .int 0, .int 0, .int 0, .int 0, .int 0, .int 0, .int 0, .int 0, .int 0, .int 0, .int 0, .int 0, .int 0, .ref m34, .ref m35, .ref m36, .ref m37, .int 0])), (m2, .inl (k2, 3100, .inl f_235))] H := hP
  have hD : va_D A [(mo, .inr (6, [.int 0, .ref m1, .ref m2, .int 18, .int 0, .ref m5, .ref m6, .ref m7, .ref m8, .int 0, .ref m10, .ref m11, .ref m12, .ref m13, .ref m14, .int 0, .int 0, .int 0, .ref m18, .int 0, .int 0, .int 0, .int 0, .int 0, .int 0, .int 0, .int 0, .int 0, .int 0, .int 0, .int 0, .int 0, .int 0, .int 0, .ref m34, .ref m35, .ref m36, .ref m37, .int 0])), (m2, .inl (k2, 3100, .inl f_235))] := hD
  refine lv_iinc (v := 18) (lv' := [(6, .int 18), (7, .int n4), (0, .ref mo), (1, .int n0), (2, .int n1), (3, .int n2), (4, .int n3), (5, .int n4)]) hx hb dX8_feed_107 hl (k := 1) rfl (by decide) (by decide) rfl (fun ls hl => ?_)
  refine lv_goto (tgt := 23) hx hb dX8_feed_110 (by decide) ?_
  refine lv_iload hx hb dX8_feed_23 (lv_at hl 0 rfl) ?_
  refine lv_bipush (v := 20) hx hb dX8_feed_25 (by decide) ?_
  refine lv_icmp_ge (tgt := 113) hx hb dX8_feed_27 (by decide) (fun c_237 => absurd c_237 (by decide)) (fun c_237 => ?_)
  refine lv_iload_n hx hb dX8_feed_30 rfl (lv_at hl 3 rfl) ?_
  refine lv_istore (lv' := [(7, .int n0), (6, .int 18), (0, .ref mo), (1, .int n0), (2, .int n1), (3, .int n2), (4, .int n3), (5, .int n4)]) hx hb dX8_feed_31 hl (by decide) rfl (fun ls hl => ?_)
  refine lv_iload hx hb dX8_feed_33 (lv_at hl 1 rfl) ?_
  refine lv_iconst (v := 4) hx hb dX8_feed_35 (by decide) ?_
  refine lv_icmp_lt (tgt := 42) hx hb dX8_feed_36 (by decide) (fun c_238 => absurd c_238 (by decide)) (fun c_238 => ?_)
  refine lv_iload_n hx hb dX8_feed_39 rfl (lv_at hl 4 rfl) ?_
  refine lv_istore (lv' := [(7, .int n1), (6, .int 18), (0, .ref mo), (1, .int n0), (2, .int n1), (3, .int n2), (4, .int n3), (5, .int n4)]) hx hb dX8_feed_40 hl (by decide) rfl (fun ls hl => ?_)
  refine lv_iload hx hb dX8_feed_42 (lv_at hl 1 rfl) ?_
  refine lv_bipush (v := 8) hx hb dX8_feed_44 (by decide) ?_
  refine lv_icmp_lt (tgt := 52) hx hb dX8_feed_46 (by decide) (fun c_239 => absurd c_239 (by decide)) (fun c_239 => ?_)
  refine lv_iload_n hx hb dX8_feed_49 rfl (lv_at hl 5 rfl) ?_
  refine lv_istore (lv' := [(7, .int n2), (6, .int 18), (0, .ref mo), (1, .int n0), (2, .int n1), (3, .int n2), (4, .int n3), (5, .int n4)]) hx hb dX8_feed_50 hl (by decide) rfl (fun ls hl => ?_)
  refine lv_iload hx hb dX8_feed_52 (lv_at hl 1 rfl) ?_
  refine lv_bipush (v := 12) hx hb dX8_feed_54 (by decide) ?_
  refine lv_icmp_lt (tgt := 63) hx hb dX8_feed_56 (by decide) (fun c_240 => absurd c_240 (by decide)) (fun c_240 => ?_)
  refine lv_iload hx hb dX8_feed_59 (lv_at hl 6 rfl) ?_
  refine lv_istore (lv' := [(7, .int n3), (6, .int 18), (0, .ref mo), (1, .int n0), (2, .int n1), (3, .int n2), (4, .int n3), (5, .int n4)]) hx hb dX8_feed_61 hl (by decide) rfl (fun ls hl => ?_)
  refine lv_iload hx hb dX8_feed_63 (lv_at hl 1 rfl) ?_
  refine lv_bipush (v := 16) hx hb dX8_feed_65 (by decide) ?_
  refine lv_icmp_lt (tgt := 74) hx hb dX8_feed_67 (by decide) (fun c_241 => absurd c_241 (by decide)) (fun c_241 => ?_)
  refine lv_iload hx hb dX8_feed_70 (lv_at hl 7 rfl) ?_
  refine lv_istore (lv' := [(7, .int n4), (6, .int 18), (0, .ref mo), (1, .int n0), (2, .int n1), (3, .int n2), (4, .int n3), (5, .int n4)]) hx hb dX8_feed_72 hl (by decide) rfl (fun ls hl => ?_)
  refine lv_aload_n hx hb dX8_feed_74 rfl (lv_at hl 2 rfl) ?_
  refine va_get (D := (dC, dI)) (ci := 6) (v := .ref m2) (C := RX8) (T := TX8) (N := 39) hx hb hts iX8 hown hK hP 0 rfl rfl 2 (by decide) (hts (.fieldLink RX8 17 "BatchTransferModel" "tape" "[B") (by decide +kernel)) (fun _ h9 => h9) rfl dX8_feed_75 ?_
  refine lv_aload_n hx hb dX8_feed_78 rfl (lv_at hl 2 rfl) ?_
  refine va_get (D := (dC, dI)) (ci := 6) (v := .int 18) (C := RX8) (T := TX8) (N := 39) hx hb hts iX8 hown hK hP 0 rfl rfl 3 (by decide) (hts (.fieldLink RX8 21 "BatchTransferModel" "tapeLen" "I") (by decide +kernel)) (fun _ h9 => h9) rfl dX8_feed_79 ?_
  refine lv_iload hx hb dX8_feed_82 (lv_at hl 0 rfl) ?_
  refine lv_bipush (v := 24) hx hb dX8_feed_84 (by decide) ?_
  refine lv_bipush (v := 8) hx hb dX8_feed_86 (by decide) ?_
  refine lv_iload hx hb dX8_feed_88 (lv_at hl 1 rfl) ?_
  refine lv_iconst (v := 3) hx hb dX8_feed_90 (by decide) ?_
  refine lv_iand hx hb dX8_feed_91 ?_
  refine lv_topi (fun x_242 ex_242 => ?_)
  obtain rfl : x_242 = 2 := ex_242.trans (by decide)
  refine lv_imul hx hb dX8_feed_92 ?_
  refine lv_topi (fun x_243 ex_243 => ?_)
  obtain rfl : x_243 = 16 := ex_243.trans (by decide)
  refine lv_isub hx hb dX8_feed_93 ?_
  refine lv_topi (fun x_244 ex_244 => ?_)
  obtain rfl : x_244 = 8 := ex_244.trans (by decide)
  refine lv_ishr hx hb dX8_feed_94 ?_
  refine lv_topi (fun x_245 ex_245 => ?_)
  refine lv_i2b hx hb dX8_feed_95 rfl ?_
  refine lv_topi (fun x_246 ex_246 => ?_)
  have h_247 : vp_in (18) 3100 := by unfold vp_in; decide +kernel
  refine va_bast hx hb hK hP hD hS 1 0 rfl rfl h_247 dX8_feed_96 (fun H locs hP hD hS => ?_)
  obtain ⟨f_248, ef_248⟩ : ∃ g : Nat → Int32, g = upd f_235 (18 : Int32).toNatClampNeg (vp_nar .byte x_246) := ⟨_, rfl⟩
  have hP : va_P (dC, dI) vwCl [(mo, .inr (6, [.int 0, .ref m1, .ref m2, .int 18, .int 0, .ref m5, .ref m6, .ref m7, .ref m8, .int 0, .ref m10, .ref m11, .ref m12, .ref m13, .ref m14, .int 0, .int 0, .int 0, .ref m18, .int 0, .int 0, .int 0, .int 0, .int 0, .int 0, .int 0, .int 0, .int 0, .int 0, .int 0, .int 0, .int 0, .int 0, .int 0, .ref m34, .ref m35, .ref m36, .ref m37, .int 0])), (m2, .inl (k2, 3100, .inl f_248))] H := by rw [ef_248]; exact hP
  have hD : va_D A [(mo, .inr (6, [.int 0, .ref m1, .ref m2, .int 18, .int 0, .ref m5, .ref m6, .ref m7, .ref m8, .int 0, .ref m10, .ref m11, .ref m12, .ref m13, .ref m14, .int 0, .int 0, .int 0, .ref m18, .int 0, .int 0, .int 0, .int 0, .int 0, .int 0, .int 0, .int 0, .int 0, .int 0, .int 0, .int 0, .int 0, .int 0, .int 0, .ref m34, .ref m35, .ref m36, .ref m37, .int 0])), (m2, .inl (k2, 3100, .inl f_248))] := by rw [ef_248]; exact hD
  refine lv_aload_n hx hb dX8_feed_97 rfl (lv_at hl 2 rfl) ?_
  refine lv_dup hx hb dX8_feed_98 rfl ?_
  refine va_get (D := (dC, dI)) (ci := 6) (v := .int 18) (C := RX8) (T := TX8) (N := 39) hx hb hts iX8 hown hK hP 0 rfl rfl 3 (by decide) (hts (.fieldLink RX8 21 "BatchTransferModel" "tapeLen" "I") (by decide +kernel)) (fun _ h9 => h9) rfl dX8_feed_99 ?_
  refine lv_iconst (v := 1) hx hb dX8_feed_102 (by decide) ?_
  refine lv_iadd hx hb dX8_feed_103 ?_
  refine lv_topi (fun x_249 ex_249 => ?_)
  obtain rfl : x_249 = 19 := ex_249.trans (by decide)
  refine va_put (D := (dC, dI)) (ci := 6) (v := .int 19) (ty := .int) (C := RX8) (T := TX8) (N := 39) hx hb hts iX8 tyX8 tyX8_ok nmX8 hown hK hP hD hS 0 rfl rfl 3 (by decide) (hts (.fieldLink RX8 21 "BatchTransferModel" "tapeLen" "I") (by decide +kernel)) (fun _ h9 => h9) rfl (by decide +kernel) rfl rfl (Nat.le_of_ble_eq_true rfl) dX8_feed_104 (fun H locs hP hD hS => ?_)
  have hP : va_P (dC, dI) vwCl [(mo, .inr (6, [.int 0, .ref m1, .ref m2, .int 19, .int 0, .ref m5, .ref m6, .ref m7, .ref m8, .int 0, .ref m10, .ref m11, .ref m12, .ref m13, .ref m14, .int 0, .int 0, .int 0, .ref m18, .int 0, .int 0, .int 0, .int 0, .int 0, .int 0, .int 0, .int 0, .int 0, .int 0, .int 0, .int 0, .int 0, .int 0, .int 0, .ref m34, .ref m35, .ref m36, .ref m37, .int 0])), (m2, .inl (k2, 3100, .inl f_248))] H := hP
  have hD : va_D A [(mo, .inr (6, [.int 0, .ref m1, .ref m2, .int 19, .int 0, .ref m5, .ref m6, .ref m7, .ref m8, .int 0, .ref m10, .ref m11, .ref m12, .ref m13, .ref m14, .int 0, .int 0, .int 0, .ref m18, .int 0, .int 0, .int 0, .int 0, .int 0, .int 0, .int 0, .int 0, .int 0, .int 0, .int 0, .int 0, .int 0, .int 0, .int 0, .ref m34, .ref m35, .ref m36, .ref m37, .int 0])), (m2, .inl (k2, 3100, .inl f_248))] := hD
  refine lv_iinc (v := 19) (lv' := [(6, .int 19), (7, .int n4), (0, .ref mo), (1, .int n0), (2, .int n1), (3, .int n2), (4, .int n3), (5, .int n4)]) hx hb dX8_feed_107 hl (k := 1) rfl (by decide) (by decide) rfl (fun ls hl => ?_)
  refine lv_goto (tgt := 23) hx hb dX8_feed_110 (by decide) ?_
  refine lv_iload hx hb dX8_feed_23 (lv_at hl 0 rfl) ?_
  refine lv_bipush (v := 20) hx hb dX8_feed_25 (by decide) ?_
  refine lv_icmp_ge (tgt := 113) hx hb dX8_feed_27 (by decide) (fun c_250 => absurd c_250 (by decide)) (fun c_250 => ?_)
  refine lv_iload_n hx hb dX8_feed_30 rfl (lv_at hl 3 rfl) ?_
  refine lv_istore (lv' := [(7, .int n0), (6, .int 19), (0, .ref mo), (1, .int n0), (2, .int n1), (3, .int n2), (4, .int n3), (5, .int n4)]) hx hb dX8_feed_31 hl (by decide) rfl (fun ls hl => ?_)
  refine lv_iload hx hb dX8_feed_33 (lv_at hl 1 rfl) ?_
  refine lv_iconst (v := 4) hx hb dX8_feed_35 (by decide) ?_
  refine lv_icmp_lt (tgt := 42) hx hb dX8_feed_36 (by decide) (fun c_251 => absurd c_251 (by decide)) (fun c_251 => ?_)
  refine lv_iload_n hx hb dX8_feed_39 rfl (lv_at hl 4 rfl) ?_
  refine lv_istore (lv' := [(7, .int n1), (6, .int 19), (0, .ref mo), (1, .int n0), (2, .int n1), (3, .int n2), (4, .int n3), (5, .int n4)]) hx hb dX8_feed_40 hl (by decide) rfl (fun ls hl => ?_)
  refine lv_iload hx hb dX8_feed_42 (lv_at hl 1 rfl) ?_
  refine lv_bipush (v := 8) hx hb dX8_feed_44 (by decide) ?_
  refine lv_icmp_lt (tgt := 52) hx hb dX8_feed_46 (by decide) (fun c_252 => absurd c_252 (by decide)) (fun c_252 => ?_)
  refine lv_iload_n hx hb dX8_feed_49 rfl (lv_at hl 5 rfl) ?_
  refine lv_istore (lv' := [(7, .int n2), (6, .int 19), (0, .ref mo), (1, .int n0), (2, .int n1), (3, .int n2), (4, .int n3), (5, .int n4)]) hx hb dX8_feed_50 hl (by decide) rfl (fun ls hl => ?_)
  refine lv_iload hx hb dX8_feed_52 (lv_at hl 1 rfl) ?_
  refine lv_bipush (v := 12) hx hb dX8_feed_54 (by decide) ?_
  refine lv_icmp_lt (tgt := 63) hx hb dX8_feed_56 (by decide) (fun c_253 => absurd c_253 (by decide)) (fun c_253 => ?_)
  refine lv_iload hx hb dX8_feed_59 (lv_at hl 6 rfl) ?_
  refine lv_istore (lv' := [(7, .int n3), (6, .int 19), (0, .ref mo), (1, .int n0), (2, .int n1), (3, .int n2), (4, .int n3), (5, .int n4)]) hx hb dX8_feed_61 hl (by decide) rfl (fun ls hl => ?_)
  refine lv_iload hx hb dX8_feed_63 (lv_at hl 1 rfl) ?_
  refine lv_bipush (v := 16) hx hb dX8_feed_65 (by decide) ?_
  refine lv_icmp_lt (tgt := 74) hx hb dX8_feed_67 (by decide) (fun c_254 => absurd c_254 (by decide)) (fun c_254 => ?_)
  refine lv_iload hx hb dX8_feed_70 (lv_at hl 7 rfl) ?_
  refine lv_istore (lv' := [(7, .int n4), (6, .int 19), (0, .ref mo), (1, .int n0), (2, .int n1), (3, .int n2), (4, .int n3), (5, .int n4)]) hx hb dX8_feed_72 hl (by decide) rfl (fun ls hl => ?_)
  refine lv_aload_n hx hb dX8_feed_74 rfl (lv_at hl 2 rfl) ?_
  refine va_get (D := (dC, dI)) (ci := 6) (v := .ref m2) (C := RX8) (T := TX8) (N := 39) hx hb hts iX8 hown hK hP 0 rfl rfl 2 (by decide) (hts (.fieldLink RX8 17 "BatchTransferModel" "tape" "[B") (by decide +kernel)) (fun _ h9 => h9) rfl dX8_feed_75 ?_
  refine lv_aload_n hx hb dX8_feed_78 rfl (lv_at hl 2 rfl) ?_
  refine va_get (D := (dC, dI)) (ci := 6) (v := .int 19) (C := RX8) (T := TX8) (N := 39) hx hb hts iX8 hown hK hP 0 rfl rfl 3 (by decide) (hts (.fieldLink RX8 21 "BatchTransferModel" "tapeLen" "I") (by decide +kernel)) (fun _ h9 => h9) rfl dX8_feed_79 ?_
  refine lv_iload hx hb dX8_feed_82 (lv_at hl 0 rfl) ?_
  refine lv_bipush (v := 24) hx hb dX8_feed_84 (by decide) ?_
  refine lv_bipush (v := 8) hx hb dX8_feed_86 (by decide) ?_
  refine lv_iload hx hb dX8_feed_88 (lv_at hl 1 rfl) ?_
  refine lv_iconst (v := 3) hx hb dX8_feed_90 (by decide) ?_
  refine lv_iand hx hb dX8_feed_91 ?_
  refine lv_topi (fun x_255 ex_255 => ?_)
  obtain rfl : x_255 = 3 := ex_255.trans (by decide)
  refine lv_imul hx hb dX8_feed_92 ?_
  refine lv_topi (fun x_256 ex_256 => ?_)
  obtain rfl : x_256 = 24 := ex_256.trans (by decide)
  refine lv_isub hx hb dX8_feed_93 ?_
  refine lv_topi (fun x_257 ex_257 => ?_)
  obtain rfl : x_257 = 0 := ex_257.trans (by decide)
  refine lv_ishr hx hb dX8_feed_94 ?_
  refine lv_topi (fun x_258 ex_258 => ?_)
  refine lv_i2b hx hb dX8_feed_95 rfl ?_
  refine lv_topi (fun x_259 ex_259 => ?_)
  have h_260 : vp_in (19) 3100 := by unfold vp_in; decide +kernel
  refine va_bast hx hb hK hP hD hS 1 0 rfl rfl h_260 dX8_feed_96 (fun H locs hP hD hS => ?_)
  obtain ⟨f_261, ef_261⟩ : ∃ g : Nat → Int32, g = upd f_248 (19 : Int32).toNatClampNeg (vp_nar .byte x_259) := ⟨_, rfl⟩
  have hP : va_P (dC, dI) vwCl [(mo, .inr (6, [.int 0, .ref m1, .ref m2, .int 19, .int 0, .ref m5, .ref m6, .ref m7, .ref m8, .int 0, .ref m10, .ref m11, .ref m12, .ref m13, .ref m14, .int 0, .int 0, .int 0, .ref m18, .int 0, .int 0, .int 0, .int 0, .int 0, .int 0, .int 0, .int 0, .int 0, .int 0, .int 0, .int 0, .int 0, .int 0, .int 0, .ref m34, .ref m35, .ref m36, .ref m37, .int 0])), (m2, .inl (k2, 3100, .inl f_261))] H := by rw [ef_261]; exact hP
  have hD : va_D A [(mo, .inr (6, [.int 0, .ref m1, .ref m2, .int 19, .int 0, .ref m5, .ref m6, .ref m7, .ref m8, .int 0, .ref m10, .ref m11, .ref m12, .ref m13, .ref m14, .int 0, .int 0, .int 0, .ref m18, .int 0, .int 0, .int 0, .int 0, .int 0, .int 0, .int 0, .int 0, .int 0, .int 0, .int 0, .int 0, .int 0, .int 0, .int 0, .ref m34, .ref m35, .ref m36, .ref m37, .int 0])), (m2, .inl (k2, 3100, .inl f_261))] := by rw [ef_261]; exact hD
  refine lv_aload_n hx hb dX8_feed_97 rfl (lv_at hl 2 rfl) ?_
  refine lv_dup hx hb dX8_feed_98 rfl ?_
  refine va_get (D := (dC, dI)) (ci := 6) (v := .int 19) (C := RX8) (T := TX8) (N := 39) hx hb hts iX8 hown hK hP 0 rfl rfl 3 (by decide) (hts (.fieldLink RX8 21 "BatchTransferModel" "tapeLen" "I") (by decide +kernel)) (fun _ h9 => h9) rfl dX8_feed_99 ?_
  refine lv_iconst (v := 1) hx hb dX8_feed_102 (by decide) ?_
  refine lv_iadd hx hb dX8_feed_103 ?_
  refine lv_topi (fun x_262 ex_262 => ?_)
  obtain rfl : x_262 = 20 := ex_262.trans (by decide)
  refine va_put (D := (dC, dI)) (ci := 6) (v := .int 20) (ty := .int) (C := RX8) (T := TX8) (N := 39) hx hb hts iX8 tyX8 tyX8_ok nmX8 hown hK hP hD hS 0 rfl rfl 3 (by decide) (hts (.fieldLink RX8 21 "BatchTransferModel" "tapeLen" "I") (by decide +kernel)) (fun _ h9 => h9) rfl (by decide +kernel) rfl rfl (Nat.le_of_ble_eq_true rfl) dX8_feed_104 (fun H locs hP hD hS => ?_)
  have hP : va_P (dC, dI) vwCl [(mo, .inr (6, [.int 0, .ref m1, .ref m2, .int 20, .int 0, .ref m5, .ref m6, .ref m7, .ref m8, .int 0, .ref m10, .ref m11, .ref m12, .ref m13, .ref m14, .int 0, .int 0, .int 0, .ref m18, .int 0, .int 0, .int 0, .int 0, .int 0, .int 0, .int 0, .int 0, .int 0, .int 0, .int 0, .int 0, .int 0, .int 0, .int 0, .ref m34, .ref m35, .ref m36, .ref m37, .int 0])), (m2, .inl (k2, 3100, .inl f_261))] H := hP
  have hD : va_D A [(mo, .inr (6, [.int 0, .ref m1, .ref m2, .int 20, .int 0, .ref m5, .ref m6, .ref m7, .ref m8, .int 0, .ref m10, .ref m11, .ref m12, .ref m13, .ref m14, .int 0, .int 0, .int 0, .ref m18, .int 0, .int 0, .int 0, .int 0, .int 0, .int 0, .int 0, .int 0, .int 0, .int 0, .int 0, .int 0, .int 0, .int 0, .int 0, .ref m34, .ref m35, .ref m36, .ref m37, .int 0])), (m2, .inl (k2, 3100, .inl f_261))] := hD
  refine lv_iinc (v := 20) (lv' := [(6, .int 20), (7, .int n4), (0, .ref mo), (1, .int n0), (2, .int n1), (3, .int n2), (4, .int n3), (5, .int n4)]) hx hb dX8_feed_107 hl (k := 1) rfl (by decide) (by decide) rfl (fun ls hl => ?_)
  refine lv_goto (tgt := 23) hx hb dX8_feed_110 (by decide) ?_
  refine lv_iload hx hb dX8_feed_23 (lv_at hl 0 rfl) ?_
  refine lv_bipush (v := 20) hx hb dX8_feed_25 (by decide) ?_
  refine lv_icmp_ge (tgt := 113) hx hb dX8_feed_27 (by decide) (fun c_263 => ?_) (fun c_263 => absurd (by decide) c_263)
  refine lv_iconst (v := 1) hx hb dX8_feed_113 (by decide) ?_
  exact W.zret (v := 1) hx hb hr rfl (fun t ht hW => ⟨⟨1, (), rfl, rfl, trivial⟩, hS.F ht⟩) hS.2.2 dX8_feed_114
