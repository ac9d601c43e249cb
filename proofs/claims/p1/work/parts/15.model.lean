set_option maxHeartbeats 4000000 in
set_option maxRecDepth 100000 in
theorem m_init (l : Launch) (dC : Nat → ClassId) (dI : Nat → Nat → Nat) (mo : Nat) (sz : Nat) : Met l yX8_init wsX8_init ({ frames := 1, cells := 16, slots := 57880, locals := 12 }) (va_Pc [.ref mo] (fun U => U.heap.size = sz ∧ va_P (dC, dI) vwCl [(mo, .inr (6, [.int 0, .null, .null, .int 0, .int 0, .null, .null, .null, .null, .int 0, .null, .null, .null, .null, .null, .int 0, .int 0, .int 0, .null, .int 0, .int 0, .int 0, .int 0, .int 0, .int 0, .int 0, .int 0, .int 0, .int 0, .int 0, .int 0, .int 0, .int 0, .int 0, .null, .null, .null, .null, .int 0]))] U.heap ∧ va_K (dC, dI) vwCl [] U ∧ va_D (fun _ => True) [(mo, .inr (6, [.int 0, .null, .null, .int 0, .int 0, .null, .null, .null, .null, .int 0, .null, .null, .null, .null, .null, .int 0, .int 0, .int 0, .null, .int 0, .int 0, .int 0, .int 0, .int 0, .int 0, .int 0, .int 0, .int 0, .int 0, .int 0, .int 0, .int 0, .int 0, .int 0, .null, .null, .null, .null, .int 0]))])) (va_Qv (fun (nb : (Nat → Int32)) => True) (fun (nb : (Nat → Int32)) (t : State) => ∃ (m1 : Nat), ∃ (m2 : Nat), ∃ (m5 : Nat), ∃ (m6 : Nat), ∃ (m7 : Nat), ∃ (m8 : Nat), ∃ (m10 : Nat), ∃ (m11 : Nat), ∃ (m12 : Nat), ∃ (m13 : Nat), ∃ (m14 : Nat), ∃ (m18 : Nat), ∃ (m34 : Nat), ∃ (m35 : Nat), ∃ (m36 : Nat), ∃ (m37 : Nat), ∃ (k1 : ClassId), ∃ (k2 : ClassId), ∃ (k5 : ClassId), ∃ (k6 : ClassId), ∃ (k7 : ClassId), ∃ (k8 : ClassId), ∃ (k10 : ClassId), ∃ (k11 : ClassId), ∃ (k12 : ClassId), ∃ (k13 : ClassId), ∃ (k14 : ClassId), ∃ (k18 : ClassId), ∃ (k34 : ClassId), ∃ (k35 : ClassId), ∃ (k36 : ClassId), ∃ (k37 : ClassId), va_P (dC, dI) vwCl [(mo, .inr (6, [.int 0, .ref m1, .ref m2, .int 0, .int 0, .ref m5, .ref m6, .ref m7, .ref m8, .int 0, .ref m10, .ref m11, .ref m12, .ref m13, .ref m14, .int 0, .int 0, .int 0, .ref m18, .int 0, .int 0, .int 0, .int 0, .int 0, .int 0, .int 0, .int 0, .int 0, .int 0, .int 0, .int 0, .int 0, .int 0, .int 0, .ref m34, .ref m35, .ref m36, .ref m37, .int 0])), (m1, .inl (k1, 16, .inl nb)), (m2, .inl (k2, 3100, .inl (fun _ => 0))), (m5, .inl (k5, 96, .inl (fun _ => 0))), (m6, .inl (k6, 8, .inl (fun _ => 0))), (m7, .inl (k7, 24000, .inl (fun _ => 0))), (m8, .inl (k8, 8, .inl (fun _ => 0))), (m10, .inl (k10, 300, .inl (fun _ => 0))), (m11, .inl (k11, 300, .inl (fun _ => 0))), (m12, .inl (k12, 300, .inl (fun _ => 0))), (m13, .inl (k13, 300, .inl (fun _ => 0))), (m14, .inl (k14, 300, .inl (fun _ => 0))), (m18, .inl (k18, 1040, .inl (fun _ => 0))), (m34, .inl (k34, 96, .inl (fun _ => 0))), (m35, .inl (k35, 8, .inl (fun _ => 0))), (m36, .inl (k36, 28000, .inl (fun _ => 0))), (m37, .inl (k37, 8, .inl (fun _ => 0)))] t.heap ∧ va_K (dC, dI) vwCl [(k1, .int), (k2, .byte), (k5, .byte), (k6, .int), (k7, .byte), (k8, .int), (k10, .int), (k11, .int), (k12, .int), (k13, .int), (k14, .int), (k18, .byte), (k34, .byte), (k35, .int), (k36, .byte), (k37, .int)] t ∧ va_D (va_A [(mo, .inr (6, [.int 0, .null, .null, .int 0, .int 0, .null, .null, .null, .null, .int 0, .null, .null, .null, .null, .null, .int 0, .int 0, .int 0, .null, .int 0, .int 0, .int 0, .int 0, .int 0, .int 0, .int 0, .int 0, .int 0, .int 0, .int 0, .int 0, .int 0, .int 0, .int 0, .null, .null, .null, .null, .int 0]))] sz) [(mo, .inr (6, [.int 0, .ref m1, .ref m2, .int 0, .int 0, .ref m5, .ref m6, .ref m7, .ref m8, .int 0, .ref m10, .ref m11, .ref m12, .ref m13, .ref m14, .int 0, .int 0, .int 0, .ref m18, .int 0, .int 0, .int 0, .int 0, .int 0, .int 0, .int 0, .int 0, .int 0, .int 0, .int 0, .int 0, .int 0, .int 0, .int 0, .ref m34, .ref m35, .ref m36, .ref m37, .int 0])), (m1, .inl (k1, 16, .inl nb)), (m2, .inl (k2, 3100, .inl (fun _ => 0))), (m5, .inl (k5, 96, .inl (fun _ => 0))), (m6, .inl (k6, 8, .inl (fun _ => 0))), (m7, .inl (k7, 24000, .inl (fun _ => 0))), (m8, .inl (k8, 8, .inl (fun _ => 0))), (m10, .inl (k10, 300, .inl (fun _ => 0))), (m11, .inl (k11, 300, .inl (fun _ => 0))), (m12, .inl (k12, 300, .inl (fun _ => 0))), (m13, .inl (k13, 300, .inl (fun _ => 0))), (m14, .inl (k14, 300, .inl (fun _ => 0))), (m18, .inl (k18, 1040, .inl (fun _ => 0))), (m34, .inl (k34, 96, .inl (fun _ => 0))), (m35, .inl (k35, 8, .inl (fun _ => 0))), (m36, .inl (k36, 28000, .inl (fun _ => 0))), (m37, .inl (k37, 8, .inl (fun _ => 0)))]) (va_A [(mo, .inr (6, [.int 0, .null, .null, .int 0, .int 0, .null, .null, .null, .null, .int 0, .null, .null, .null, .null, .null, .int 0, .int 0, .int 0, .null, .int 0, .int 0, .int 0, .int 0, .int 0, .int 0, .int 0, .int 0, .int 0, .int 0, .int 0, .int 0, .int 0, .int 0, .int 0, .null, .null, .null, .null, .int 0]))] sz)) 16 57880 (va_A [(mo, .inr (6, [.int 0, .null, .null, .int 0, .int 0, .null, .null, .null, .null, .int 0, .null, .null, .null, .null, .null, .int 0, .int 0, .int 0, .null, .int 0, .int 0, .int 0, .int 0, .int 0, .int 0, .int 0, .int 0, .int 0, .int 0, .int 0, .int 0, .int 0, .int 0, .int 0, .null, .null, .null, .null, .int 0]))] sz) := by
  refine Met.ofW (cc := cX8_init) (maxL := 4) (ret := none) (by decide) rfl ?_
  intro p e s m args below meth c s₁ B hml hv
  obtain ⟨rfl, hsz, hP, hK, hD0⟩ := hv
  have hx := B.exec
  have hb := B.bytes
  have hr := B.returns
  have hts := atoms_spec (ws := wsX8_init) B.pre
  have hown : s.vm.findClass RX8 = some m.cls := findClass_of_methodNamed B.named
  have hlocks := B.notSynchronized
  have hin : meth.name = "<init>" := (name_of_methodNamed B.named B.method).1
  subst hsz
  have hD := hD0.self (sz := s.heap.size)
  generalize hAe : va_A [(mo, .inr (6, [.int 0, .null, .null, .int 0, .int 0, .null, .null, .null, .null, .int 0, .null, .null, .null, .null, .null, .int 0, .int 0, .int 0, .null, .int 0, .int 0, .int 0, .int 0, .int 0, .int 0, .int 0, .int 0, .int 0, .int 0, .int 0, .int 0, .int 0, .int 0, .int 0, .null, .null, .null, .null, .int 0]))] s.heap.size = A at hD ⊢
  have hA : ∀ q : Nat, s.heap.size ≤ q → A q := fun q h => by rw [← hAe]; exact Or.inr h
  have hS : va_S A s.heap s.heap [] := va_S.rf
  have hP : va_P (dC, dI) vwCl [(mo, .inr (6, [.int 0, .null, .null, .int 0, .int 0, .null, .null, .null, .null, .int 0, .null, .null, .null, .null, .null, .int 0, .int 0, .int 0, .null, .int 0, .int 0, .int 0, .int 0, .int 0, .int 0, .int 0, .int 0, .int 0, .int 0, .int 0, .int 0, .int 0, .int 0, .int 0, .null, .null, .null, .null, .int 0]))] s.heap := hP
  have hl := lv_entry ([.ref mo]) (n := 4) (Nat.le_of_ble_eq_true rfl)
  rw [lg_entry_eq]
  generalize (lg_sl ([.ref mo]) ++ List.replicate (4 - (lg_sl ([.ref mo])).length) Slot.unset).toArray = ls at hl ⊢
  have hl : lv_has ls 4 [(0, .ref mo)] := hl
  have iX8 : ∀ w ∈ wsX80, w ∈ wsX8_init := by decide +kernel
  refine lv_aload_n hx hb dX8_init_0 rfl (lv_at hl 0 rfl) ?_
  refine W.objInit hx hb hown (hts (.methodLink RX8 1 objectInit) (by decide +kernel)) (hts (.instanceMethod objectInit) (by decide +kernel)) (hts (.code objectInit ⟨#[0xb1]⟩ 1 none) (by decide +kernel)) rfl (by rw [hml]; exact hl.1) rfl dX8_init_1 (Nat.le_of_ble_eq_true rfl) (Nat.le_of_ble_eq_true rfl) ?_
  refine W.eq (g2 := F0 m 4 ls []) rfl ?_
  refine lv_aload_n hx hb dX8_init_4 rfl (lv_at hl 0 rfl) ?_
  refine lv_iconst (v := 0) hx hb dX8_init_5 (by decide) ?_
  refine va_put (D := (dC, dI)) (ci := 6) (v := .int 0) (ty := .int) (C := RX8) (T := TX8) (N := 39) hx hb hts iX8 tyX8 tyX8_ok nmX8 hown hK hP hD hS 0 rfl rfl 0 (by decide) (hts (.fieldLink RX8 7 "BatchTransferModel" "thrownCode" "I") (by decide +kernel)) (fun _ h9 => h9) rfl (by decide +kernel) rfl rfl (Nat.le_of_ble_eq_true rfl) dX8_init_6 (fun H locs hP hD hS => ?_)
  have hP : va_P (dC, dI) vwCl [(mo, .inr (6, [.int 0, .null, .null, .int 0, .int 0, .null, .null, .null, .null, .int 0, .null, .null, .null, .null, .null, .int 0, .int 0, .int 0, .null, .int 0, .int 0, .int 0, .int 0, .int 0, .int 0, .int 0, .int 0, .int 0, .int 0, .int 0, .int 0, .int 0, .int 0, .int 0, .null, .null, .null, .null, .int 0]))] H := hP
  have hD : va_D A [(mo, .inr (6, [.int 0, .null, .null, .int 0, .int 0, .null, .null, .null, .null, .int 0, .null, .null, .null, .null, .null, .int 0, .int 0, .int 0, .null, .int 0, .int 0, .int 0, .int 0, .int 0, .int 0, .int 0, .int 0, .int 0, .int 0, .int 0, .int 0, .int 0, .int 0, .int 0, .null, .null, .null, .null, .int 0]))] := hD
  refine lv_aload_n hx hb dX8_init_9 rfl (lv_at hl 0 rfl) ?_
  refine lv_bipush (v := 16) hx hb dX8_init_10 (by decide) ?_
  refine va_newa (atype := .int) (ty := .int) hx hb (hts (.arrayClass .int) (by decide +kernel)) rfl hK hP hD hS hA (n := 16) (N' := 16) (a0 := (16, .inl (fun _ => 0))) (nz_int 16) (by decide) (by decide +kernel) (nb_int 16 (by omega)) (show 0 + 1 ≤ 16 by omega) (show 0 + 16 ≤ 57880 by omega) dX8_init_12 (fun q_1 cA_2 H hK hP hD hS => ?_)
  refine W.widen (k := 1) (n := 16) (by omega) (by omega) ?_
  have hK : va_K (dC, dI) vwCl [(cA_2, .int)] s := hK
  have hP : va_P (dC, dI) vwCl [(mo, .inr (6, [.int 0, .null, .null, .int 0, .int 0, .null, .null, .null, .null, .int 0, .null, .null, .null, .null, .null, .int 0, .int 0, .int 0, .null, .int 0, .int 0, .int 0, .int 0, .int 0, .int 0, .int 0, .int 0, .int 0, .int 0, .int 0, .int 0, .int 0, .int 0, .int 0, .null, .null, .null, .null, .int 0])), (q_1, .inl (cA_2, 16, .inl (fun _ => 0)))] H := hP
  have hD : va_D A [(mo, .inr (6, [.int 0, .null, .null, .int 0, .int 0, .null, .null, .null, .null, .int 0, .null, .null, .null, .null, .null, .int 0, .int 0, .int 0, .null, .int 0, .int 0, .int 0, .int 0, .int 0, .int 0, .int 0, .int 0, .int 0, .int 0, .int 0, .int 0, .int 0, .int 0, .int 0, .null, .null, .null, .null, .int 0])), (q_1, .inl (cA_2, 16, .inl (fun _ => 0)))] := hD
  refine va_putF (D := (dC, dI)) (ci := 6) (v := .ref q_1) (ty := .array .int) (C := RX8) (T := TX8) (N := 39) hx hb hts iX8 tyX8 tyX8_ok nmX8 hown hK hP hD hS 0 rfl rfl 1 (by decide) (hts (.fieldLink RX8 13 "BatchTransferModel" "nibbles" "[I") (by decide +kernel)) (fun _ h9 => h9) rfl hin rfl (by decide +kernel) rfl rfl (Nat.le_of_ble_eq_true rfl) dX8_init_14 (fun H locs hP hD hS => ?_)
  have hP : va_P (dC, dI) vwCl [(mo, .inr (6, [.int 0, .ref q_1, .null, .int 0, .int 0, .null, .null, .null, .null, .int 0, .null, .null, .null, .null, .null, .int 0, .int 0, .int 0, .null, .int 0, .int 0, .int 0, .int 0, .int 0, .int 0, .int 0, .int 0, .int 0, .int 0, .int 0, .int 0, .int 0, .int 0, .int 0, .null, .null, .null, .null, .int 0])), (q_1, .inl (cA_2, 16, .inl (fun _ => 0)))] H := hP
  have hD : va_D A [(mo, .inr (6, [.int 0, .ref q_1, .null, .int 0, .int 0, .null, .null, .null, .null, .int 0, .null, .null, .null, .null, .null, .int 0, .int 0, .int 0, .null, .int 0, .int 0, .int 0, .int 0, .int 0, .int 0, .int 0, .int 0, .int 0, .int 0, .int 0, .int 0, .int 0, .int 0, .int 0, .null, .null, .null, .null, .int 0])), (q_1, .inl (cA_2, 16, .inl (fun _ => 0)))] := hD
  refine lv_aload_n hx hb dX8_init_17 rfl (lv_at hl 0 rfl) ?_
  refine lv_sipush (v := 3100) hx hb dX8_init_18 (by decide) ?_
  refine va_newa (atype := .byte) (ty := .byte) hx hb (hts (.arrayClass .byte) (by decide +kernel)) rfl hK hP hD hS hA (n := 3100) (N' := 3100) (a0 := (3100, .inl (fun _ => 0))) (nz_byte 3100) (by decide) (by decide +kernel) (nb_byte 3100 (by omega)) (show 1 + 1 ≤ 16 by omega) (show 16 + 3100 ≤ 57880 by omega) dX8_init_21 (fun q_3 cA_4 H hK hP hD hS => ?_)
  refine W.widen (k := 2) (n := 3116) (by omega) (by omega) ?_
  have hK : va_K (dC, dI) vwCl [(cA_2, .int), (cA_4, .byte)] s := hK
  have hP : va_P (dC, dI) vwCl [(mo, .inr (6, [.int 0, .ref q_1, .null, .int 0, .int 0, .null, .null, .null, .null, .int 0, .null, .null, .null, .null, .null, .int 0, .int 0, .int 0, .null, .int 0, .int 0, .int 0, .int 0, .int 0, .int 0, .int 0, .int 0, .int 0, .int 0, .int 0, .int 0, .int 0, .int 0, .int 0, .null, .null, .null, .null, .int 0])), (q_1, .inl (cA_2, 16, .inl (fun _ => 0))), (q_3, .inl (cA_4, 3100, .inl (fun _ => 0)))] H := hP
  have hD : va_D A [(mo, .inr (6, [.int 0, .ref q_1, .null, .int 0, .int 0, .null, .null, .null, .null, .int 0, .null, .null, .null, .null, .null, .int 0, .int 0, .int 0, .null, .int 0, .int 0, .int 0, .int 0, .int 0, .int 0, .int 0, .int 0, .int 0, .int 0, .int 0, .int 0, .int 0, .int 0, .int 0, .null, .null, .null, .null, .int 0])), (q_1, .inl (cA_2, 16, .inl (fun _ => 0))), (q_3, .inl (cA_4, 3100, .inl (fun _ => 0)))] := hD
  refine va_putF (D := (dC, dI)) (ci := 6) (v := .ref q_3) (ty := .array .byte) (C := RX8) (T := TX8) (N := 39) hx hb hts iX8 tyX8 tyX8_ok nmX8 hown hK hP hD hS 0 rfl rfl 2 (by decide) (hts (.fieldLink RX8 17 "BatchTransferModel" "tape" "[B") (by decide +kernel)) (fun _ h9 => h9) rfl hin rfl (by decide +kernel) rfl rfl (Nat.le_of_ble_eq_true rfl) dX8_init_23 (fun H locs hP hD hS => ?_)
  have hP : va_P (dC, dI) vwCl [(mo, .inr (6, [.int 0, .ref q_1, .ref q_3, .int 0, .int 0, .null, .null, .null, .null, .int 0, .null, .null, .null, .null, .null, .int 0, .int 0, .int 0, .null, .int 0, .int 0, .int 0, .int 0, .int 0, .int 0, .int 0, .int 0, .int 0, .int 0, .int 0, .int 0, .int 0, .int 0, .int 0, .null, .null, .null, .null, .int 0])), (q_1, .inl (cA_2, 16, .inl (fun _ => 0))), (q_3, .inl (cA_4, 3100, .inl (fun _ => 0)))] H := hP
  have hD : va_D A [(mo, .inr (6, [.int 0, .ref q_1, .ref q_3, .int 0, .int 0, .null, .null, .null, .null, .int 0, .null, .null, .null, .null, .null, .int 0, .int 0, .int 0, .null, .int 0, .int 0, .int 0, .int 0, .int 0, .int 0, .int 0, .int 0, .int 0, .int 0, .int 0, .int 0, .int 0, .int 0, .int 0, .null, .null, .null, .null, .int 0])), (q_1, .inl (cA_2, 16, .inl (fun _ => 0))), (q_3, .inl (cA_4, 3100, .inl (fun _ => 0)))] := hD
  refine lv_aload_n hx hb dX8_init_26 rfl (lv_at hl 0 rfl) ?_
  refine lv_iconst (v := 0) hx hb dX8_init_27 (by decide) ?_
  refine va_put (D := (dC, dI)) (ci := 6) (v := .int 0) (ty := .int) (C := RX8) (T := TX8) (N := 39) hx hb hts iX8 tyX8 tyX8_ok nmX8 hown hK hP hD hS 0 rfl rfl 3 (by decide) (hts (.fieldLink RX8 21 "BatchTransferModel" "tapeLen" "I") (by decide +kernel)) (fun _ h9 => h9) rfl (by decide +kernel) rfl rfl (Nat.le_of_ble_eq_true rfl) dX8_init_28 (fun H locs hP hD hS => ?_)
  have hP : va_P (dC, dI) vwCl [(mo, .inr (6, [.int 0, .ref q_1, .ref q_3, .int 0, .int 0, .null, .null, .null, .null, .int 0, .null, .null, .null, .null, .null, .int 0, .int 0, .int 0, .null, .int 0, .int 0, .int 0, .int 0, .int 0, .int 0, .int 0, .int 0, .int 0, .int 0, .int 0, .int 0, .int 0, .int 0, .int 0, .null, .null, .null, .null, .int 0])), (q_1, .inl (cA_2, 16, .inl (fun _ => 0))), (q_3, .inl (cA_4, 3100, .inl (fun _ => 0)))] H := hP
  have hD : va_D A [(mo, .inr (6, [.int 0, .ref q_1, .ref q_3, .int 0, .int 0, .null, .null, .null, .null, .int 0, .null, .null, .null, .null, .null, .int 0, .int 0, .int 0, .null, .int 0, .int 0, .int 0, .int 0, .int 0, .int 0, .int 0, .int 0, .int 0, .int 0, .int 0, .int 0, .int 0, .int 0, .int 0, .null, .null, .null, .null, .int 0])), (q_1, .inl (cA_2, 16, .inl (fun _ => 0))), (q_3, .inl (cA_4, 3100, .inl (fun _ => 0)))] := hD
  refine lv_aload_n hx hb dX8_init_31 rfl (lv_at hl 0 rfl) ?_
  refine lv_iconst (v := 0) hx hb dX8_init_32 (by decide) ?_
  refine va_put (D := (dC, dI)) (ci := 6) (v := .int 0) (ty := .int) (C := RX8) (T := TX8) (N := 39) hx hb hts iX8 tyX8 tyX8_ok nmX8 hown hK hP hD hS 0 rfl rfl 4 (by decide) (hts (.fieldLink RX8 24 "BatchTransferModel" "files" "I") (by decide +kernel)) (fun _ h9 => h9) rfl (by decide +kernel) rfl rfl (Nat.le_of_ble_eq_true rfl) dX8_init_33 (fun H locs hP hD hS => ?_)
  have hP : va_P (dC, dI) vwCl [(mo, .inr (6, [.int 0, .ref q_1, .ref q_3, .int 0, .int 0, .null, .null, .null, .null, .int 0, .null, .null, .null, .null, .null, .int 0, .int 0, .int 0, .null, .int 0, .int 0, .int 0, .int 0, .int 0, .int 0, .int 0, .int 0, .int 0, .int 0, .int 0, .int 0, .int 0, .int 0, .int 0, .null, .null, .null, .null, .int 0])), (q_1, .inl (cA_2, 16, .inl (fun _ => 0))), (q_3, .inl (cA_4, 3100, .inl (fun _ => 0)))] H := hP
  have hD : va_D A [(mo, .inr (6, [.int 0, .ref q_1, .ref q_3, .int 0, .int 0, .null, .null, .null, .null, .int 0, .null, .null, .null, .null, .null, .int 0, .int 0, .int 0, .null, .int 0, .int 0, .int 0, .int 0, .int 0, .int 0, .int 0, .int 0, .int 0, .int 0, .int 0, .int 0, .int 0, .int 0, .int 0, .null, .null, .null, .null, .int 0])), (q_1, .inl (cA_2, 16, .inl (fun _ => 0))), (q_3, .inl (cA_4, 3100, .inl (fun _ => 0)))] := hD
  refine lv_aload_n hx hb dX8_init_36 rfl (lv_at hl 0 rfl) ?_
  refine lv_bipush (v := 96) hx hb dX8_init_37 (by decide) ?_
  refine va_newa (atype := .byte) (ty := .byte) hx hb (hts (.arrayClass .byte) (by decide +kernel)) rfl hK hP hD hS hA (n := 96) (N' := 96) (a0 := (96, .inl (fun _ => 0))) (nz_byte 96) (by decide) (by decide +kernel) (nb_byte 96 (by omega)) (show 2 + 1 ≤ 16 by omega) (show 3116 + 96 ≤ 57880 by omega) dX8_init_39 (fun q_5 cA_6 H hK hP hD hS => ?_)
  refine W.widen (k := 3) (n := 3212) (by omega) (by omega) ?_
  have hK : va_K (dC, dI) vwCl [(cA_2, .int), (cA_4, .byte), (cA_6, .byte)] s := hK
  have hP : va_P (dC, dI) vwCl [(mo, .inr (6, [.int 0, .ref q_1, .ref q_3, .int 0, .int 0, .null, .null, .null, .null, .int 0, .null, .null, .null, .null, .null, .int 0, .int 0, .int 0, .null, .int 0, .int 0, .int 0, .int 0, .int 0, .int 0, .int 0, .int 0, .int 0, .int 0, .int 0, .int 0, .int 0, .int 0, .int 0, .null, .null, .null, .null, .int 0])), (q_1, .inl (cA_2, 16, .inl (fun _ => 0))), (q_3, .inl (cA_4, 3100, .inl (fun _ => 0))), (q_5, .inl (cA_6, 96, .inl (fun _ => 0)))] H := hP
  have hD : va_D A [(mo, .inr (6, [.int 0, .ref q_1, .ref q_3, .int 0, .int 0, .null, .null, .null, .null, .int 0, .null, .null, .null, .null, .null, .int 0, .int 0, .int 0, .null, .int 0, .int 0, .int 0, .int 0, .int 0, .int 0, .int 0, .int 0, .int 0, .int 0, .int 0, .int 0, .int 0, .int 0, .int 0, .null, .null, .null, .null, .int 0])), (q_1, .inl (cA_2, 16, .inl (fun _ => 0))), (q_3, .inl (cA_4, 3100, .inl (fun _ => 0))), (q_5, .inl (cA_6, 96, .inl (fun _ => 0)))] := hD
  refine va_putF (D := (dC, dI)) (ci := 6) (v := .ref q_5) (ty := .array .byte) (C := RX8) (T := TX8) (N := 39) hx hb hts iX8 tyX8 tyX8_ok nmX8 hown hK hP hD hS 0 rfl rfl 5 (by decide) (hts (.fieldLink RX8 27 "BatchTransferModel" "name" "[B") (by decide +kernel)) (fun _ h9 => h9) rfl hin rfl (by decide +kernel) rfl rfl (Nat.le_of_ble_eq_true rfl) dX8_init_41 (fun H locs hP hD hS => ?_)
  have hP : va_P (dC, dI) vwCl [(mo, .inr (6, [.int 0, .ref q_1, .ref q_3, .int 0, .int 0, .ref q_5, .null, .null, .null, .int 0, .null, .null, .null, .null, .null, .int 0, .int 0, .int 0, .null, .int 0, .int 0, .int 0, .int 0, .int 0, .int 0, .int 0, .int 0, .int 0, .int 0, .int 0, .int 0, .int 0, .int 0, .int 0, .null, .null, .null, .null, .int 0])), (q_1, .inl (cA_2, 16, .inl (fun _ => 0))), (q_3, .inl (cA_4, 3100, .inl (fun _ => 0))), (q_5, .inl (cA_6, 96, .inl (fun _ => 0)))] H := hP
  have hD : va_D A [(mo, .inr (6, [.int 0, .ref q_1, .ref q_3, .int 0, .int 0, .ref q_5, .null, .null, .null, .int 0, .null, .null, .null, .null, .null, .int 0, .int 0, .int 0, .null, .int 0, .int 0, .int 0, .int 0, .int 0, .int 0, .int 0, .int 0, .int 0, .int 0, .int 0, .int 0, .int 0, .int 0, .int 0, .null, .null, .null, .null, .int 0])), (q_1, .inl (cA_2, 16, .inl (fun _ => 0))), (q_3, .inl (cA_4, 3100, .inl (fun _ => 0))), (q_5, .inl (cA_6, 96, .inl (fun _ => 0)))] := hD
  refine lv_aload_n hx hb dX8_init_44 rfl (lv_at hl 0 rfl) ?_
  refine lv_bipush (v := 8) hx hb dX8_init_45 (by decide) ?_
  refine va_newa (atype := .int) (ty := .int) hx hb (hts (.arrayClass .int) (by decide +kernel)) rfl hK hP hD hS hA (n := 8) (N' := 8) (a0 := (8, .inl (fun _ => 0))) (nz_int 8) (by decide) (by decide +kernel) (nb_int 8 (by omega)) (show 3 + 1 ≤ 16 by omega) (show 3212 + 8 ≤ 57880 by omega) dX8_init_47 (fun q_7 cA_8 H hK hP hD hS => ?_)
  refine W.widen (k := 4) (n := 3220) (by omega) (by omega) ?_
  have hK : va_K (dC, dI) vwCl [(cA_2, .int), (cA_4, .byte), (cA_6, .byte), (cA_8, .int)] s := hK
  have hP : va_P (dC, dI) vwCl [(mo, .inr (6, [.int 0, .ref q_1, .ref q_3, .int 0, .int 0, .ref q_5, .null, .null, .null, .int 0, .null, .null, .null, .null, .null, .int 0, .int 0, .int 0, .null, .int 0, .int 0, .int 0, .int 0, .int 0, .int 0, .int 0, .int 0, .int 0, .int 0, .int 0, .int 0, .int 0, .int 0, .int 0, .null, .null, .null, .null, .int 0])), (q_1, .inl (cA_2, 16, .inl (fun _ => 0))), (q_3, .inl (cA_4, 3100, .inl (fun _ => 0))), (q_5, .inl (cA_6, 96, .inl (fun _ => 0))), (q_7, .inl (cA_8, 8, .inl (fun _ => 0)))] H := hP
  have hD : va_D A [(mo, .inr (6, [.int 0, .ref q_1, .ref q_3, .int 0, .int 0, .ref q_5, .null, .null, .null, .int 0, .null, .null, .null, .null, .null, .int 0, .int 0, .int 0, .null, .int 0, .int 0, .int 0, .int 0, .int 0, .int 0, .int 0, .int 0, .int 0, .int 0, .int 0, .int 0, .int 0, .int 0, .int 0, .null, .null, .null, .null, .int 0])), (q_1, .inl (cA_2, 16, .inl (fun _ => 0))), (q_3, .inl (cA_4, 3100, .inl (fun _ => 0))), (q_5, .inl (cA_6, 96, .inl (fun _ => 0))), (q_7, .inl (cA_8, 8, .inl (fun _ => 0)))] := hD
  refine va_putF (D := (dC, dI)) (ci := 6) (v := .ref q_7) (ty := .array .int) (C := RX8) (T := TX8) (N := 39) hx hb hts iX8 tyX8 tyX8_ok nmX8 hown hK hP hD hS 0 rfl rfl 6 (by decide) (hts (.fieldLink RX8 30 "BatchTransferModel" "nameLen" "[I") (by decide +kernel)) (fun _ h9 => h9) rfl hin rfl (by decide +kernel) rfl rfl (Nat.le_of_ble_eq_true rfl) dX8_init_49 (fun H locs hP hD hS => ?_)
  have hP : va_P (dC, dI) vwCl [(mo, .inr (6, [.int 0, .ref q_1, .ref q_3, .int 0, .int 0, .ref q_5, .ref q_7, .null, .null, .int 0, .null, .null, .null, .null, .null, .int 0, .int 0, .int 0, .null, .int 0, .int 0, .int 0, .int 0, .int 0, .int 0, .int 0, .int 0, .int 0, .int 0, .int 0, .int 0, .int 0, .int 0, .int 0, .null, .null, .null, .null, .int 0])), (q_1, .inl (cA_2, 16, .inl (fun _ => 0))), (q_3, .inl (cA_4, 3100, .inl (fun _ => 0))), (q_5, .inl (cA_6, 96, .inl (fun _ => 0))), (q_7, .inl (cA_8, 8, .inl (fun _ => 0)))] H := hP
  have hD : va_D A [(mo, .inr (6, [.int 0, .ref q_1, .ref q_3, .int 0, .int 0, .ref q_5, .ref q_7, .null, .null, .int 0, .null, .null, .null, .null, .null, .int 0, .int 0, .int 0, .null, .int 0, .int 0, .int 0, .int 0, .int 0, .int 0, .int 0, .int 0, .int 0, .int 0, .int 0, .int 0, .int 0, .int 0, .int 0, .null, .null, .null, .null, .int 0])), (q_1, .inl (cA_2, 16, .inl (fun _ => 0))), (q_3, .inl (cA_4, 3100, .inl (fun _ => 0))), (q_5, .inl (cA_6, 96, .inl (fun _ => 0))), (q_7, .inl (cA_8, 8, .inl (fun _ => 0)))] := hD
  refine lv_aload_n hx hb dX8_init_52 rfl (lv_at hl 0 rfl) ?_
  refine lv_sipush (v := 24000) hx hb dX8_init_53 (by decide) ?_
  refine va_newa (atype := .byte) (ty := .byte) hx hb (hts (.arrayClass .byte) (by decide +kernel)) rfl hK hP hD hS hA (n := 24000) (N' := 24000) (a0 := (24000, .inl (fun _ => 0))) (nz_byte 24000) (by decide) (by decide +kernel) (nb_byte 24000 (by omega)) (show 4 + 1 ≤ 16 by omega) (show 3220 + 24000 ≤ 57880 by omega) dX8_init_56 (fun q_9 cA_10 H hK hP hD hS => ?_)
  refine W.widen (k := 5) (n := 27220) (by omega) (by omega) ?_
  have hK : va_K (dC, dI) vwCl [(cA_2, .int), (cA_4, .byte), (cA_6, .byte), (cA_8, .int), (cA_10, .byte)] s := hK
  have hP : va_P (dC, dI) vwCl [(mo, .inr (6, [.int 0, .ref q_1, .ref q_3, .int 0, .int 0, .ref q_5, .ref q_7, .null, .null, .int 0, .null, .null, .null, .null, .null, .int 0, .int 0, .int 0, .null, .int 0, .int 0, .int 0, .int 0, .int 0, .int 0, .int 0, .int 0, .int 0, .int 0, .int 0, .int 0, .int 0, .int 0, .int 0, .null, .null, .null, .null, .int 0])), (q_1, .inl (cA_2, 16, .inl (fun _ => 0))), (q_3, .inl (cA_4, 3100, .inl (fun _ => 0))), (q_5, .inl (cA_6, 96, .inl (fun _ => 0))), (q_7, .inl (cA_8, 8, .inl (fun _ => 0))), (q_9, .inl (cA_10, 24000, .inl (fun _ => 0)))] H := hP
  have hD : va_D A [(mo, .inr (6, [.int 0, .ref q_1, .ref q_3, .int 0, .int 0, .ref q_5, .ref q_7, .null, .null, .int 0, .null, .null, .null, .null, .null, .int 0, .int 0, .int 0, .null, .int 0, .int 0, .int 0, .int 0, .int 0, .int 0, .int 0, .int 0, .int 0, .int 0, .int 0, .int 0, .int 0, .int 0, .int 0, .null, .null, .null, .null, .int 0])), (q_1, .inl (cA_2, 16, .inl (fun _ => 0))), (q_3, .inl (cA_4, 3100, .inl (fun _ => 0))), (q_5, .inl (cA_6, 96, .inl (fun _ => 0))), (q_7, .inl (cA_8, 8, .inl (fun _ => 0))), (q_9, .inl (cA_10, 24000, .inl (fun _ => 0)))] := hD
  refine va_putF (D := (dC, dI)) (ci := 6) (v := .ref q_9) (ty := .array .byte) (C := RX8) (T := TX8) (N := 39) hx hb hts iX8 tyX8 tyX8_ok nmX8 hown hK hP hD hS 0 rfl rfl 7 (by decide) (hts (.fieldLink RX8 33 "BatchTransferModel" "data" "[B") (by decide +kernel)) (fun _ h9 => h9) rfl hin rfl (by decide +kernel) rfl rfl (Nat.le_of_ble_eq_true rfl) dX8_init_58 (fun H locs hP hD hS => ?_)
  have hP : va_P (dC, dI) vwCl [(mo, .inr (6, [.int 0, .ref q_1, .ref q_3, .int 0, .int 0, .ref q_5, .ref q_7, .ref q_9, .null, .int 0, .null, .null, .null, .null, .null, .int 0, .int 0, .int 0, .null, .int 0, .int 0, .int 0, .int 0, .int 0, .int 0, .int 0, .int 0, .int 0, .int 0, .int 0, .int 0, .int 0, .int 0, .int 0, .null, .null, .null, .null, .int 0])), (q_1, .inl (cA_2, 16, .inl (fun _ => 0))), (q_3, .inl (cA_4, 3100, .inl (fun _ => 0))), (q_5, .inl (cA_6, 96, .inl (fun _ => 0))), (q_7, .inl (cA_8, 8, .inl (fun _ => 0))), (q_9, .inl (cA_10, 24000, .inl (fun _ => 0)))] H := hP
  have hD : va_D A [(mo, .inr (6, [.int 0, .ref q_1, .ref q_3, .int 0, .int 0, .ref q_5, .ref q_7, .ref q_9, .null, .int 0, .null, .null, .null, .null, .null, .int 0, .int 0, .int 0, .null, .int 0, .int 0, .int 0, .int 0, .int 0, .int 0, .int 0, .int 0, .int 0, .int 0, .int 0, .int 0, .int 0, .int 0, .int 0, .null, .null, .null, .null, .int 0])), (q_1, .inl (cA_2, 16, .inl (fun _ => 0))), (q_3, .inl (cA_4, 3100, .inl (fun _ => 0))), (q_5, .inl (cA_6, 96, .inl (fun _ => 0))), (q_7, .inl (cA_8, 8, .inl (fun _ => 0))), (q_9, .inl (cA_10, 24000, .inl (fun _ => 0)))] := hD
  refine lv_aload_n hx hb dX8_init_61 rfl (lv_at hl 0 rfl) ?_
  refine lv_bipush (v := 8) hx hb dX8_init_62 (by decide) ?_
  refine va_newa (atype := .int) (ty := .int) hx hb (hts (.arrayClass .int) (by decide +kernel)) rfl hK hP hD hS hA (n := 8) (N' := 8) (a0 := (8, .inl (fun _ => 0))) (nz_int 8) (by decide) (by decide +kernel) (nb_int 8 (by omega)) (show 5 + 1 ≤ 16 by omega) (show 27220 + 8 ≤ 57880 by omega) dX8_init_64 (fun q_11 cA_12 H hK hP hD hS => ?_)
  refine W.widen (k := 6) (n := 27228) (by omega) (by omega) ?_
  have hK : va_K (dC, dI) vwCl [(cA_2, .int), (cA_4, .byte), (cA_6, .byte), (cA_8, .int), (cA_10, .byte), (cA_12, .int)] s := hK
  have hP : va_P (dC, dI) vwCl [(mo, .inr (6, [.int 0, .ref q_1, .ref q_3, .int 0, .int 0, .ref q_5, .ref q_7, .ref q_9, .null, .int 0, .null, .null, .null, .null, .null, .int 0, .int 0, .int 0, .null, .int 0, .int 0, .int 0, .int 0, .int 0, .int 0, .int 0, .int 0, .int 0, .int 0, .int 0, .int 0, .int 0, .int 0, .int 0, .null, .null, .null, .null, .int 0])), (q_1, .inl (cA_2, 16, .inl (fun _ => 0))), (q_3, .inl (cA_4, 3100, .inl (fun _ => 0))), (q_5, .inl (cA_6, 96, .inl (fun _ => 0))), (q_7, .inl (cA_8, 8, .inl (fun _ => 0))), (q_9, .inl (cA_10, 24000, .inl (fun _ => 0))), (q_11, .inl (cA_12, 8, .inl (fun _ => 0)))] H := hP
  have hD : va_D A [(mo, .inr (6, [.int 0, .ref q_1, .ref q_3, .int 0, .int 0, .ref q_5, .ref q_7, .ref q_9, .null, .int 0, .null, .null, .null, .null, .null, .int 0, .int 0, .int 0, .null, .int 0, .int 0, .int 0, .int 0, .int 0, .int 0, .int 0, .int 0, .int 0, .int 0, .int 0, .int 0, .int 0, .int 0, .int 0, .null, .null, .null, .null, .int 0])), (q_1, .inl (cA_2, 16, .inl (fun _ => 0))), (q_3, .inl (cA_4, 3100, .inl (fun _ => 0))), (q_5, .inl (cA_6, 96, .inl (fun _ => 0))), (q_7, .inl (cA_8, 8, .inl (fun _ => 0))), (q_9, .inl (cA_10, 24000, .inl (fun _ => 0))), (q_11, .inl (cA_12, 8, .inl (fun _ => 0)))] := hD
  refine va_putF (D := (dC, dI)) (ci := 6) (v := .ref q_11) (ty := .array .int) (C := RX8) (T := TX8) (N := 39) hx hb hts iX8 tyX8 tyX8_ok nmX8 hown hK hP hD hS 0 rfl rfl 8 (by decide) (hts (.fieldLink RX8 36 "BatchTransferModel" "dataLen" "[I") (by decide +kernel)) (fun _ h9 => h9) rfl hin rfl (by decide +kernel) rfl rfl (Nat.le_of_ble_eq_true rfl) dX8_init_66 (fun H locs hP hD hS => ?_)
  have hP : va_P (dC, dI) vwCl [(mo, .inr (6, [.int 0, .ref q_1, .ref q_3, .int 0, .int 0, .ref q_5, .ref q_7, .ref q_9, .ref q_11, .int 0, .null, .null, .null, .null, .null, .int 0, .int 0, .int 0, .null, .int 0, .int 0, .int 0, .int 0, .int 0, .int 0, .int 0, .int 0, .int 0, .int 0, .int 0, .int 0, .int 0, .int 0, .int 0, .null, .null, .null, .null, .int 0])), (q_1, .inl (cA_2, 16, .inl (fun _ => 0))), (q_3, .inl (cA_4, 3100, .inl (fun _ => 0))), (q_5, .inl (cA_6, 96, .inl (fun _ => 0))), (q_7, .inl (cA_8, 8, .inl (fun _ => 0))), (q_9, .inl (cA_10, 24000, .inl (fun _ => 0))), (q_11, .inl (cA_12, 8, .inl (fun _ => 0)))] H := hP
  have hD : va_D A [(mo, .inr (6, [.int 0, .ref q_1, .ref q_3, .int 0, .int 0, .ref q_5, .ref q_7, .ref q_9, .ref q_11, .int 0, .null, .null, .null, .null, .null, .int 0, .int 0, .int 0, .null, .int 0, .int 0, .int 0, .int 0, .int 0, .int 0, .int 0, .int 0, .int 0, .int 0, .int 0, .int 0, .int 0, .int 0, .int 0, .null, .null, .null, .null, .int 0])), (q_1, .inl (cA_2, 16, .inl (fun _ => 0))), (q_3, .inl (cA_4, 3100, .inl (fun _ => 0))), (q_5, .inl (cA_6, 96, .inl (fun _ => 0))), (q_7, .inl (cA_8, 8, .inl (fun _ => 0))), (q_9, .inl (cA_10, 24000, .inl (fun _ => 0))), (q_11, .inl (cA_12, 8, .inl (fun _ => 0)))] := hD
  refine lv_aload_n hx hb dX8_init_69 rfl (lv_at hl 0 rfl) ?_
  refine lv_iconst (v := 0) hx hb dX8_init_70 (by decide) ?_
  refine va_put (D := (dC, dI)) (ci := 6) (v := .int 0) (ty := .int) (C := RX8) (T := TX8) (N := 39) hx hb hts iX8 tyX8 tyX8_ok nmX8 hown hK hP hD hS 0 rfl rfl 9 (by decide) (hts (.fieldLink RX8 39 "BatchTransferModel" "units" "I") (by decide +kernel)) (fun _ h9 => h9) rfl (by decide +kernel) rfl rfl (Nat.le_of_ble_eq_true rfl) dX8_init_71 (fun H locs hP hD hS => ?_)
  have hP : va_P (dC, dI) vwCl [(mo, .inr (6, [.int 0, .ref q_1, .ref q_3, .int 0, .int 0, .ref q_5, .ref q_7, .ref q_9, .ref q_11, .int 0, .null, .null, .null, .null, .null, .int 0, .int 0, .int 0, .null, .int 0, .int 0, .int 0, .int 0, .int 0, .int 0, .int 0, .int 0, .int 0, .int 0, .int 0, .int 0, .int 0, .int 0, .int 0, .null, .null, .null, .null, .int 0])), (q_1, .inl (cA_2, 16, .inl (fun _ => 0))), (q_3, .inl (cA_4, 3100, .inl (fun _ => 0))), (q_5, .inl (cA_6, 96, .inl (fun _ => 0))), (q_7, .inl (cA_8, 8, .inl (fun _ => 0))), (q_9, .inl (cA_10, 24000, .inl (fun _ => 0))), (q_11, .inl (cA_12, 8, .inl (fun _ => 0)))] H := hP
  have hD : va_D A [(mo, .inr (6, [.int 0, .ref q_1, .ref q_3, .int 0, .int 0, .ref q_5, .ref q_7, .ref q_9, .ref q_11, .int 0, .null, .null, .null, .null, .null, .int 0, .int 0, .int 0, .null, .int 0, .int 0, .int 0, .int 0, .int 0, .int 0, .int 0, .int 0, .int 0, .int 0, .int 0, .int 0, .int 0, .int 0, .int 0, .null, .null, .null, .null, .int 0])), (q_1, .inl (cA_2, 16, .inl (fun _ => 0))), (q_3, .inl (cA_4, 3100, .inl (fun _ => 0))), (q_5, .inl (cA_6, 96, .inl (fun _ => 0))), (q_7, .inl (cA_8, 8, .inl (fun _ => 0))), (q_9, .inl (cA_10, 24000, .inl (fun _ => 0))), (q_11, .inl (cA_12, 8, .inl (fun _ => 0)))] := hD
  refine lv_aload_n hx hb dX8_init_74 rfl (lv_at hl 0 rfl) ?_
  refine lv_sipush (v := 300) hx hb dX8_init_75 (by decide) ?_
  refine va_newa (atype := .int) (ty := .int) hx hb (hts (.arrayClass .int) (by decide +kernel)) rfl hK hP hD hS hA (n := 300) (N' := 300) (a0 := (300, .inl (fun _ => 0))) (nz_int 300) (by decide) (by decide +kernel) (nb_int 300 (by omega)) (show 6 + 1 ≤ 16 by omega) (show 27228 + 300 ≤ 57880 by omega) dX8_init_78 (fun q_13 cA_14 H hK hP hD hS => ?_)
  refine W.widen (k := 7) (n := 27528) (by omega) (by omega) ?_
  have hK : va_K (dC, dI) vwCl [(cA_2, .int), (cA_4, .byte), (cA_6, .byte), (cA_8, .int), (cA_10, .byte), (cA_12, .int), (cA_14, .int)] s := hK
  have hP : va_P (dC, dI) vwCl [(mo, .inr (6, [.int 0, .ref q_1, .ref q_3, .int 0, .int 0, .ref q_5, .ref q_7, .ref q_9, .ref q_11, .int 0, .null, .null, .null, .null, .null, .int 0, .int 0, .int 0, .null, .int 0, .int 0, .int 0, .int 0, .int 0, .int 0, .int 0, .int 0, .int 0, .int 0, .int 0, .int 0, .int 0, .int 0, .int 0, .null, .null, .null, .null, .int 0])), (q_1, .inl (cA_2, 16, .inl (fun _ => 0))), (q_3, .inl (cA_4, 3100, .inl (fun _ => 0))), (q_5, .inl (cA_6, 96, .inl (fun _ => 0))), (q_7, .inl (cA_8, 8, .inl (fun _ => 0))), (q_9, .inl (cA_10, 24000, .inl (fun _ => 0))), (q_11, .inl (cA_12, 8, .inl (fun _ => 0))), (q_13, .inl (cA_14, 300, .inl (fun _ => 0)))] H := hP
  have hD : va_D A [(mo, .inr (6, [.int 0, .ref q_1, .ref q_3, .int 0, .int 0, .ref q_5, .ref q_7, .ref q_9, .ref q_11, .int 0, .null, .null, .null, .null, .null, .int 0, .int 0, .int 0, .null, .int 0, .int 0, .int 0, .int 0, .int 0, .int 0, .int 0, .int 0, .int 0, .int 0, .int 0, .int 0, .int 0, .int 0, .int 0, .null, .null, .null, .null, .int 0])), (q_1, .inl (cA_2, 16, .inl (fun _ => 0))), (q_3, .inl (cA_4, 3100, .inl (fun _ => 0))), (q_5, .inl (cA_6, 96, .inl (fun _ => 0))), (q_7, .inl (cA_8, 8, .inl (fun _ => 0))), (q_9, .inl (cA_10, 24000, .inl (fun _ => 0))), (q_11, .inl (cA_12, 8, .inl (fun _ => 0))), (q_13, .inl (cA_14, 300, .inl (fun _ => 0)))] := hD
  refine va_putF (D := (dC, dI)) (ci := 6) (v := .ref q_13) (ty := .array .int) (C := RX8) (T := TX8) (N := 39) hx hb hts iX8 tyX8 tyX8_ok nmX8 hown hK hP hD hS 0 rfl rfl 10 (by decide) (hts (.fieldLink RX8 42 "BatchTransferModel" "uKind" "[I") (by decide +kernel)) (fun _ h9 => h9) rfl hin rfl (by decide +kernel) rfl rfl (Nat.le_of_ble_eq_true rfl) dX8_init_80 (fun H locs hP hD hS => ?_)
  have hP : va_P (dC, dI) vwCl [(mo, .inr (6, [.int 0, .ref q_1, .ref q_3, .int 0, .int 0, .ref q_5, .ref q_7, .ref q_9, .ref q_11, .int 0, .ref q_13, .null, .null, .null, .null, .int 0, .int 0, .int 0, .null, .int 0, .int 0, .int 0, .int 0, .int 0, .int 0, .int 0, .int 0, .int 0, .int 0, .int 0, .int 0, .int 0, .int 0, .int 0, .null, .null, .null, .null, .int 0])), (q_1, .inl (cA_2, 16, .inl (fun _ => 0))), (q_3, .inl (cA_4, 3100, .inl (fun _ => 0))), (q_5, .inl (cA_6, 96, .inl (fun _ => 0))), (q_7, .inl (cA_8, 8, .inl (fun _ => 0))), (q_9, .inl (cA_10, 24000, .inl (fun _ => 0))), (q_11, .inl (cA_12, 8, .inl (fun _ => 0))), (q_13, .inl (cA_14, 300, .inl (fun _ => 0)))] H := hP
  have hD : va_D A [(mo, .inr (6, [.int 0, .ref q_1, .ref q_3, .int 0, .int 0, .ref q_5, .ref q_7, .ref q_9, .ref q_11, .int 0, .ref q_13, .null, .null, .null, .null, .int 0, .int 0, .int 0, .null, .int 0, .int 0, .int 0, .int 0, .int 0, .int 0, .int 0, .int 0, .int 0, .int 0, .int 0, .int 0, .int 0, .int 0, .int 0, .null, .null, .null, .null, .int 0])), (q_1, .inl (cA_2, 16, .inl (fun _ => 0))), (q_3, .inl (cA_4, 3100, .inl (fun _ => 0))), (q_5, .inl (cA_6, 96, .inl (fun _ => 0))), (q_7, .inl (cA_8, 8, .inl (fun _ => 0))), (q_9, .inl (cA_10, 24000, .inl (fun _ => 0))), (q_11, .inl (cA_12, 8, .inl (fun _ => 0))), (q_13, .inl (cA_14, 300, .inl (fun _ => 0)))] := hD
  refine lv_aload_n hx hb dX8_init_83 rfl (lv_at hl 0 rfl) ?_
  refine lv_sipush (v := 300) hx hb dX8_init_84 (by decide) ?_
  refine va_newa (atype := .int) (ty := .int) hx hb (hts (.arrayClass .int) (by decide +kernel)) rfl hK hP hD hS hA (n := 300) (N' := 300) (a0 := (300, .inl (fun _ => 0))) (nz_int 300) (by decide) (by decide +kernel) (nb_int 300 (by omega)) (show 7 + 1 ≤ 16 by omega) (show 27528 + 300 ≤ 57880 by omega) dX8_init_87 (fun q_15 cA_16 H hK hP hD hS => ?_)
  refine W.widen (k := 8) (n := 27828) (by omega) (by omega) ?_
  have hK : va_K (dC, dI) vwCl [(cA_2, .int), (cA_4, .byte), (cA_6, .byte), (cA_8, .int), (cA_10, .byte), (cA_12, .int), (cA_14, .int), (cA_16, .int)] s := hK
  have hP : va_P (dC, dI) vwCl [(mo, .inr (6, [.int 0, .ref q_1, .ref q_3, .int 0, .int 0, .ref q_5, .ref q_7, .ref q_9, .ref q_11, .int 0, .ref q_13, .null, .null, .null, .null, .int 0, .int 0, .int 0, .null, .int 0, .int 0, .int 0, .int 0, .int 0, .int 0, .int 0, .int 0, .int 0, .int 0, .int 0, .int 0, .int 0, .int 0, .int 0, .null, .null, .null, .null, .int 0])), (q_1, .inl (cA_2, 16, .inl (fun _ => 0))), (q_3, .inl (cA_4, 3100, .inl (fun _ => 0))), (q_5, .inl (cA_6, 96, .inl (fun _ => 0))), (q_7, .inl (cA_8, 8, .inl (fun _ => 0))), (q_9, .inl (cA_10, 24000, .inl (fun _ => 0))), (q_11, .inl (cA_12, 8, .inl (fun _ => 0))), (q_13, .inl (cA_14, 300, .inl (fun _ => 0))), (q_15, .inl (cA_16, 300, .inl (fun _ => 0)))] H := hP
  have hD : va_D A [(mo, .inr (6, [.int 0, .ref q_1, .ref q_3, .int 0, .int 0, .ref q_5, .ref q_7, .ref q_9, .ref q_11, .int 0, .ref q_13, .null, .null, .null, .null, .int 0, .int 0, .int 0, .null, .int 0, .int 0, .int 0, .int 0, .int 0, .int 0, .int 0, .int 0, .int 0, .int 0, .int 0, .int 0, .int 0, .int 0, .int 0, .null, .null, .null, .null, .int 0])), (q_1, .inl (cA_2, 16, .inl (fun _ => 0))), (q_3, .inl (cA_4, 3100, .inl (fun _ => 0))), (q_5, .inl (cA_6, 96, .inl (fun _ => 0))), (q_7, .inl (cA_8, 8, .inl (fun _ => 0))), (q_9, .inl (cA_10, 24000, .inl (fun _ => 0))), (q_11, .inl (cA_12, 8, .inl (fun _ => 0))), (q_13, .inl (cA_14, 300, .inl (fun _ => 0))), (q_15, .inl (cA_16, 300, .inl (fun _ => 0)))] := hD
  refine va_putF (D := (dC, dI)) (ci := 6) (v := .ref q_15) (ty := .array .int) (C := RX8) (T := TX8) (N := 39) hx hb hts iX8 tyX8 tyX8_ok nmX8 hown hK hP hD hS 0 rfl rfl 11 (by decide) (hts (.fieldLink RX8 45 "BatchTransferModel" "uFile" "[I") (by decide +kernel)) (fun _ h9 => h9) rfl hin rfl (by decide +kernel) rfl rfl (Nat.le_of_ble_eq_true rfl) dX8_init_89 (fun H locs hP hD hS => ?_)
  have hP : va_P (dC, dI) vwCl [(mo, .inr (6, [.int 0, .ref q_1, .ref q_3, .int 0, .int 0, .ref q_5, .ref q_7, .ref q_9, .ref q_11, .int 0, .ref q_13, .ref q_15, .null, .null, .null, .int 0, .int 0, .int 0, .null, .int 0, .int 0, .int 0, .int 0, .int 0, .int 0, .int 0, .int 0, .int 0, .int 0, .int 0, .int 0, .int 0, .int 0, .int 0, .null, .null, .null, .null, .int 0])), (q_1, .inl (cA_2, 16, .inl (fun _ => 0))), (q_3, .inl (cA_4, 3100, .inl (fun _ => 0))), (q_5, .inl (cA_6, 96, .inl (fun _ => 0))), (q_7, .inl (cA_8, 8, .inl (fun _ => 0))), (q_9, .inl (cA_10, 24000, .inl (fun _ => 0))), (q_11, .inl (cA_12, 8, .inl (fun _ => 0))), (q_13, .inl (cA_14, 300, .inl (fun _ => 0))), (q_15, .inl (cA_16, 300, .inl (fun _ => 0)))] H := hP
  have hD : va_D A [(mo, .inr (6, [.int 0, .ref q_1, .ref q_3, .int 0, .int 0, .ref q_5, .ref q_7, .ref q_9, .ref q_11, .int 0, .ref q_13, .ref q_15, .null, .null, .null, .int 0, .int 0, .int 0, .null, .int 0, .int 0, .int 0, .int 0, .int 0, .int 0, .int 0, .int 0, .int 0, .int 0, .int 0, .int 0, .int 0, .int 0, .int 0, .null, .null, .null, .null, .int 0])), (q_1, .inl (cA_2, 16, .inl (fun _ => 0))), (q_3, .inl (cA_4, 3100, .inl (fun _ => 0))), (q_5, .inl (cA_6, 96, .inl (fun _ => 0))), (q_7, .inl (cA_8, 8, .inl (fun _ => 0))), (q_9, .inl (cA_10, 24000, .inl (fun _ => 0))), (q_11, .inl (cA_12, 8, .inl (fun _ => 0))), (q_13, .inl (cA_14, 300, .inl (fun _ => 0))), (q_15, .inl (cA_16, 300, .inl (fun _ => 0)))] := hD
  refine lv_aload_n hx hb dX8_init_92 rfl (lv_at hl 0 rfl) ?_
  refine lv_sipush (v := 300) hx hb dX8_init_93 (by decide) ?_
  refine va_newa (atype := .int) (ty := .int) hx hb (hts (.arrayClass .int) (by decide +kernel)) rfl hK hP hD hS hA (n := 300) (N' := 300) (a0 := (300, .inl (fun _ => 0))) (nz_int 300) (by decide) (by decide +kernel) (nb_int 300 (by omega)) (show 8 + 1 ≤ 16 by omega) (show 27828 + 300 ≤ 57880 by omega) dX8_init_96 (fun q_17 cA_18 H hK hP hD hS => ?_)
  refine W.widen (k := 9) (n := 28128) (by omega) (by omega) ?_
  have hK : va_K (dC, dI) vwCl [(cA_2, .int), (cA_4, .byte), (cA_6, .byte), (cA_8, .int), (cA_10, .byte), (cA_12, .int), (cA_14, .int), (cA_16, .int), (cA_18, .int)] s := hK
  have hP : va_P (dC, dI) vwCl [(mo, .inr (6, [.int 0, .ref q_1, .ref q_3, .int 0, .int 0, .ref q_5, .ref q_7, .ref q_9, .ref q_11, .int 0, .ref q_13, .ref q_15, .null, .null, .null, .int 0, .int 0, .int 0, .null, .int 0, .int 0, .int 0, .int 0, .int 0, .int 0, .int 0, .int 0, .int 0, .int 0, .int 0, .int 0, .int 0, .int 0, .int 0, .null, .null, .null, .null, .int 0])), (q_1, .inl (cA_2, 16, .inl (fun _ => 0))), (q_3, .inl (cA_4, 3100, .inl (fun _ => 0))), (q_5, .inl (cA_6, 96, .inl (fun _ => 0))), (q_7, .inl (cA_8, 8, .inl (fun _ => 0))), (q_9, .inl (cA_10, 24000, .inl (fun _ => 0))), (q_11, .inl (cA_12, 8, .inl (fun _ => 0))), (q_13, .inl (cA_14, 300, .inl (fun _ => 0))), (q_15, .inl (cA_16, 300, .inl (fun _ => 0))), (q_17, .inl (cA_18, 300, .inl (fun _ => 0)))] H := hP
  have hD : va_D A [(mo, .inr (6, [.int 0, .ref q_1, .ref q_3, .int 0, .int 0, .ref q_5, .ref q_7, .ref q_9, .ref q_11, .int 0, .ref q_13, .ref q_15, .null, .null, .null, .int 0, .int 0, .int 0, .null, .int 0, .int 0, .int 0, .int 0, .int 0, .int 0, .int 0, .int 0, .int 0, .int 0, .int 0, .int 0, .int 0, .int 0, .int 0, .null, .null, .null, .null, .int 0])), (q_1, .inl (cA_2, 16, .inl (fun _ => 0))), (q_3, .inl (cA_4, 3100, .inl (fun _ => 0))), (q_5, .inl (cA_6, 96, .inl (fun _ => 0))), (q_7, .inl (cA_8, 8, .inl (fun _ => 0))), (q_9, .inl (cA_10, 24000, .inl (fun _ => 0))), (q_11, .inl (cA_12, 8, .inl (fun _ => 0))), (q_13, .inl (cA_14, 300, .inl (fun _ => 0))), (q_15, .inl (cA_16, 300, .inl (fun _ => 0))), (q_17, .inl (cA_18, 300, .inl (fun _ => 0)))] := hD
  refine va_putF (D := (dC, dI)) (ci := 6) (v := .ref q_17) (ty := .array .int) (C := RX8) (T := TX8) (N := 39) hx hb hts iX8 tyX8 tyX8_ok nmX8 hown hK hP hD hS 0 rfl rfl 12 (by decide) (hts (.fieldLink RX8 48 "BatchTransferModel" "uFrom" "[I") (by decide +kernel)) (fun _ h9 => h9) rfl hin rfl (by decide +kernel) rfl rfl (Nat.le_of_ble_eq_true rfl) dX8_init_98 (fun H locs hP hD hS => ?_)
  have hP : va_P (dC, dI) vwCl [(mo, .inr (6, [.int 0, .ref q_1, .ref q_3, .int 0, .int 0, .ref q_5, .ref q_7, .ref q_9, .ref q_11, .int 0, .ref q_13, .ref q_15, .ref q_17, .null, .null, .int 0, .int 0, .int 0, .null, .int 0, .int 0, .int 0, .int 0, .int 0, .int 0, .int 0, .int 0, .int 0, .int 0, .int 0, .int 0, .int 0, .int 0, .int 0, .null, .null, .null, .null, .int 0])), (q_1, .inl (cA_2, 16, .inl (fun _ => 0))), (q_3, .inl (cA_4, 3100, .inl (fun _ => 0))), (q_5, .inl (cA_6, 96, .inl (fun _ => 0))), (q_7, .inl (cA_8, 8, .inl (fun _ => 0))), (q_9, .inl (cA_10, 24000, .inl (fun _ => 0))), (q_11, .inl (cA_12, 8, .inl (fun _ => 0))), (q_13, .inl (cA_14, 300, .inl (fun _ => 0))), (q_15, .inl (cA_16, 300, .inl (fun _ => 0))), (q_17, .inl (cA_18, 300, .inl (fun _ => 0)))] H := hP
  have hD : va_D A [(mo, .inr (6, [.int 0, .ref q_1, .ref q_3, .int 0, .int 0, .ref q_5, .ref q_7, .ref q_9, .ref q_11, .int 0, .ref q_13, .ref q_15, .ref q_17, .null, .null, .int 0, .int 0, .int 0, .null, .int 0, .int 0, .int 0, .int 0, .int 0, .int 0, .int 0, .int 0, .int 0, .int 0, .int 0, .int 0, .int 0, .int 0, .int 0, .null, .null, .null, .null, .int 0])), (q_1, .inl (cA_2, 16, .inl (fun _ => 0))), (q_3, .inl (cA_4, 3100, .inl (fun _ => 0))), (q_5, .inl (cA_6, 96, .inl (fun _ => 0))), (q_7, .inl (cA_8, 8, .inl (fun _ => 0))), (q_9, .inl (cA_10, 24000, .inl (fun _ => 0))), (q_11, .inl (cA_12, 8, .inl (fun _ => 0))), (q_13, .inl (cA_14, 300, .inl (fun _ => 0))), (q_15, .inl (cA_16, 300, .inl (fun _ => 0))), (q_17, .inl (cA_18, 300, .inl (fun _ => 0)))] := hD
  refine lv_aload_n hx hb dX8_init_101 rfl (lv_at hl 0 rfl) ?_
  refine lv_sipush (v := 300) hx hb dX8_init_102 (by decide) ?_
  refine va_newa (atype := .int) (ty := .int) hx hb (hts (.arrayClass .int) (by decide +kernel)) rfl hK hP hD hS hA (n := 300) (N' := 300) (a0 := (300, .inl (fun _ => 0))) (nz_int 300) (by decide) (by decide +kernel) (nb_int 300 (by omega)) (show 9 + 1 ≤ 16 by omega) (show 28128 + 300 ≤ 57880 by omega) dX8_init_105 (fun q_19 cA_20 H hK hP hD hS => ?_)
  refine W.widen (k := 10) (n := 28428) (by omega) (by omega) ?_
  have hK : va_K (dC, dI) vwCl [(cA_2, .int), (cA_4, .byte), (cA_6, .byte), (cA_8, .int), (cA_10, .byte), (cA_12, .int), (cA_14, .int), (cA_16, .int), (cA_18, .int), (cA_20, .int)] s := hK
  have hP : va_P (dC, dI) vwCl [(mo, .inr (6, [.int 0, .ref q_1, .ref q_3, .int 0, .int 0, .ref q_5, .ref q_7, .ref q_9, .ref q_11, .int 0, .ref q_13, .ref q_15, .ref q_17, .null, .null, .int 0, .int 0, .int 0, .null, .int 0, .int 0, .int 0, .int 0, .int 0, .int 0, .int 0, .int 0, .int 0, .int 0, .int 0, .int 0, .int 0, .int 0, .int 0, .null, .null, .null, .null, .int 0])), (q_1, .inl (cA_2, 16, .inl (fun _ => 0))), (q_3, .inl (cA_4, 3100, .inl (fun _ => 0))), (q_5, .inl (cA_6, 96, .inl (fun _ => 0))), (q_7, .inl (cA_8, 8, .inl (fun _ => 0))), (q_9, .inl (cA_10, 24000, .inl (fun _ => 0))), (q_11, .inl (cA_12, 8, .inl (fun _ => 0))), (q_13, .inl (cA_14, 300, .inl (fun _ => 0))), (q_15, .inl (cA_16, 300, .inl (fun _ => 0))), (q_17, .inl (cA_18, 300, .inl (fun _ => 0))), (q_19, .inl (cA_20, 300, .inl (fun _ => 0)))] H := hP
  have hD : va_D A [(mo, .inr (6, [.int 0, .ref q_1, .ref q_3, .int 0, .int 0, .ref q_5, .ref q_7, .ref q_9, .ref q_11, .int 0, .ref q_13, .ref q_15, .ref q_17, .null, .null, .int 0, .int 0, .int 0, .null, .int 0, .int 0, .int 0, .int 0, .int 0, .int 0, .int 0, .int 0, .int 0, .int 0, .int 0, .int 0, .int 0, .int 0, .int 0, .null, .null, .null, .null, .int 0])), (q_1, .inl (cA_2, 16, .inl (fun _ => 0))), (q_3, .inl (cA_4, 3100, .inl (fun _ => 0))), (q_5, .inl (cA_6, 96, .inl (fun _ => 0))), (q_7, .inl (cA_8, 8, .inl (fun _ => 0))), (q_9, .inl (cA_10, 24000, .inl (fun _ => 0))), (q_11, .inl (cA_12, 8, .inl (fun _ => 0))), (q_13, .inl (cA_14, 300, .inl (fun _ => 0))), (q_15, .inl (cA_16, 300, .inl (fun _ => 0))), (q_17, .inl (cA_18, 300, .inl (fun _ => 0))), (q_19, .inl (cA_20, 300, .inl (fun _ => 0)))] := hD
  refine va_putF (D := (dC, dI)) (ci := 6) (v := .ref q_19) (ty := .array .int) (C := RX8) (T := TX8) (N := 39) hx hb hts iX8 tyX8 tyX8_ok nmX8 hown hK hP hD hS 0 rfl rfl 13 (by decide) (hts (.fieldLink RX8 51 "BatchTransferModel" "uSize" "[I") (by decide +kernel)) (fun _ h9 => h9) rfl hin rfl (by decide +kernel) rfl rfl (Nat.le_of_ble_eq_true rfl) dX8_init_107 (fun H locs hP hD hS => ?_)
  have hP : va_P (dC, dI) vwCl [(mo, .inr (6, [.int 0, .ref q_1, .ref q_3, .int 0, .int 0, .ref q_5, .ref q_7, .ref q_9, .ref q_11, .int 0, .ref q_13, .ref q_15, .ref q_17, .ref q_19, .null, .int 0, .int 0, .int 0, .null, .int 0, .int 0, .int 0, .int 0, .int 0, .int 0, .int 0, .int 0, .int 0, .int 0, .int 0, .int 0, .int 0, .int 0, .int 0, .null, .null, .null, .null, .int 0])), (q_1, .inl (cA_2, 16, .inl (fun _ => 0))), (q_3, .inl (cA_4, 3100, .inl (fun _ => 0))), (q_5, .inl (cA_6, 96, .inl (fun _ => 0))), (q_7, .inl (cA_8, 8, .inl (fun _ => 0))), (q_9, .inl (cA_10, 24000, .inl (fun _ => 0))), (q_11, .inl (cA_12, 8, .inl (fun _ => 0))), (q_13, .inl (cA_14, 300, .inl (fun _ => 0))), (q_15, .inl (cA_16, 300, .inl (fun _ => 0))), (q_17, .inl (cA_18, 300, .inl (fun _ => 0))), (q_19, .inl (cA_20, 300, .inl (fun _ => 0)))] H := hP
  have hD : va_D A [(mo, .inr (6, [.int 0, .ref q_1, .ref q_3, .int 0, .int 0, .ref q_5, .ref q_7, .ref q_9, .ref q_11, .int 0, .ref q_13, .ref q_15, .ref q_17, .ref q_19, .null, .int 0, .int 0, .int 0, .null, .int 0, .int 0, .int 0, .int 0, .int 0, .int 0, .int 0, .int 0, .int 0, .int 0, .int 0, .int 0, .int 0, .int 0, .int 0, .null, .null, .null, .null, .int 0])), (q_1, .inl (cA_2, 16, .inl (fun _ => 0))), (q_3, .inl (cA_4, 3100, .inl (fun _ => 0))), (q_5, .inl (cA_6, 96, .inl (fun _ => 0))), (q_7, .inl (cA_8, 8, .inl (fun _ => 0))), (q_9, .inl (cA_10, 24000, .inl (fun _ => 0))), (q_11, .inl (cA_12, 8, .inl (fun _ => 0))), (q_13, .inl (cA_14, 300, .inl (fun _ => 0))), (q_15, .inl (cA_16, 300, .inl (fun _ => 0))), (q_17, .inl (cA_18, 300, .inl (fun _ => 0))), (q_19, .inl (cA_20, 300, .inl (fun _ => 0)))] := hD
  refine lv_aload_n hx hb dX8_init_110 rfl (lv_at hl 0 rfl) ?_
  refine lv_sipush (v := 300) hx hb dX8_init_111 (by decide) ?_
  refine va_newa (atype := .int) (ty := .int) hx hb (hts (.arrayClass .int) (by decide +kernel)) rfl hK hP hD hS hA (n := 300) (N' := 300) (a0 := (300, .inl (fun _ => 0))) (nz_int 300) (by decide) (by decide +kernel) (nb_int 300 (by omega)) (show 10 + 1 ≤ 16 by omega) (show 28428 + 300 ≤ 57880 by omega) dX8_init_114 (fun q_21 cA_22 H hK hP hD hS => ?_)
  refine W.widen (k := 11) (n := 28728) (by omega) (by omega) ?_
  have hK : va_K (dC, dI) vwCl [(cA_2, .int), (cA_4, .byte), (cA_6, .byte), (cA_8, .int), (cA_10, .byte), (cA_12, .int), (cA_14, .int), (cA_16, .int), (cA_18, .int), (cA_20, .int), (cA_22, .int)] s := hK
  have hP : va_P (dC, dI) vwCl [(mo, .inr (6, [.int 0, .ref q_1, .ref q_3, .int 0, .int 0, .ref q_5, .ref q_7, .ref q_9, .ref q_11, .int 0, .ref q_13, .ref q_15, .ref q_17, .ref q_19, .null, .int 0, .int 0, .int 0, .null, .int 0, .int 0, .int 0, .int 0, .int 0, .int 0, .int 0, .int 0, .int 0, .int 0, .int 0, .int 0, .int 0, .int 0, .int 0, .null, .null, .null, .null, .int 0])), (q_1, .inl (cA_2, 16, .inl (fun _ => 0))), (q_3, .inl (cA_4, 3100, .inl (fun _ => 0))), (q_5, .inl (cA_6, 96, .inl (fun _ => 0))), (q_7, .inl (cA_8, 8, .inl (fun _ => 0))), (q_9, .inl (cA_10, 24000, .inl (fun _ => 0))), (q_11, .inl (cA_12, 8, .inl (fun _ => 0))), (q_13, .inl (cA_14, 300, .inl (fun _ => 0))), (q_15, .inl (cA_16, 300, .inl (fun _ => 0))), (q_17, .inl (cA_18, 300, .inl (fun _ => 0))), (q_19, .inl (cA_20, 300, .inl (fun _ => 0))), (q_21, .inl (cA_22, 300, .inl (fun _ => 0)))] H := hP
  have hD : va_D A [(mo, .inr (6, [.int 0, .ref q_1, .ref q_3, .int 0, .int 0, .ref q_5, .ref q_7, .ref q_9, .ref q_11, .int 0, .ref q_13, .ref q_15, .ref q_17, .ref q_19, .null, .int 0, .int 0, .int 0, .null, .int 0, .int 0, .int 0, .int 0, .int 0, .int 0, .int 0, .int 0, .int 0, .int 0, .int 0, .int 0, .int 0, .int 0, .int 0, .null, .null, .null, .null, .int 0])), (q_1, .inl (cA_2, 16, .inl (fun _ => 0))), (q_3, .inl (cA_4, 3100, .inl (fun _ => 0))), (q_5, .inl (cA_6, 96, .inl (fun _ => 0))), (q_7, .inl (cA_8, 8, .inl (fun _ => 0))), (q_9, .inl (cA_10, 24000, .inl (fun _ => 0))), (q_11, .inl (cA_12, 8, .inl (fun _ => 0))), (q_13, .inl (cA_14, 300, .inl (fun _ => 0))), (q_15, .inl (cA_16, 300, .inl (fun _ => 0))), (q_17, .inl (cA_18, 300, .inl (fun _ => 0))), (q_19, .inl (cA_20, 300, .inl (fun _ => 0))), (q_21, .inl (cA_22, 300, .inl (fun _ => 0)))] := hD
  refine va_putF (D := (dC, dI)) (ci := 6) (v := .ref q_21) (ty := .array .int) (C := RX8) (T := TX8) (N := 39) hx hb hts iX8 tyX8 tyX8_ok nmX8 hown hK hP hD hS 0 rfl rfl 14 (by decide) (hts (.fieldLink RX8 54 "BatchTransferModel" "uNumber" "[I") (by decide +kernel)) (fun _ h9 => h9) rfl hin rfl (by decide +kernel) rfl rfl (Nat.le_of_ble_eq_true rfl) dX8_init_116 (fun H locs hP hD hS => ?_)
  have hP : va_P (dC, dI) vwCl [(mo, .inr (6, [.int 0, .ref q_1, .ref q_3, .int 0, .int 0, .ref q_5, .ref q_7, .ref q_9, .ref q_11, .int 0, .ref q_13, .ref q_15, .ref q_17, .ref q_19, .ref q_21, .int 0, .int 0, .int 0, .null, .int 0, .int 0, .int 0, .int 0, .int 0, .int 0, .int 0, .int 0, .int 0, .int 0, .int 0, .int 0, .int 0, .int 0, .int 0, .null, .null, .null, .null, .int 0])), (q_1, .inl (cA_2, 16, .inl (fun _ => 0))), (q_3, .inl (cA_4, 3100, .inl (fun _ => 0))), (q_5, .inl (cA_6, 96, .inl (fun _ => 0))), (q_7, .inl (cA_8, 8, .inl (fun _ => 0))), (q_9, .inl (cA_10, 24000, .inl (fun _ => 0))), (q_11, .inl (cA_12, 8, .inl (fun _ => 0))), (q_13, .inl (cA_14, 300, .inl (fun _ => 0))), (q_15, .inl (cA_16, 300, .inl (fun _ => 0))), (q_17, .inl (cA_18, 300, .inl (fun _ => 0))), (q_19, .inl (cA_20, 300, .inl (fun _ => 0))), (q_21, .inl (cA_22, 300, .inl (fun _ => 0)))] H := hP
  have hD : va_D A [(mo, .inr (6, [.int 0, .ref q_1, .ref q_3, .int 0, .int 0, .ref q_5, .ref q_7, .ref q_9, .ref q_11, .int 0, .ref q_13, .ref q_15, .ref q_17, .ref q_19, .ref q_21, .int 0, .int 0, .int 0, .null, .int 0, .int 0, .int 0, .int 0, .int 0, .int 0, .int 0, .int 0, .int 0, .int 0, .int 0, .int 0, .int 0, .int 0, .int 0, .null, .null, .null, .null, .int 0])), (q_1, .inl (cA_2, 16, .inl (fun _ => 0))), (q_3, .inl (cA_4, 3100, .inl (fun _ => 0))), (q_5, .inl (cA_6, 96, .inl (fun _ => 0))), (q_7, .inl (cA_8, 8, .inl (fun _ => 0))), (q_9, .inl (cA_10, 24000, .inl (fun _ => 0))), (q_11, .inl (cA_12, 8, .inl (fun _ => 0))), (q_13, .inl (cA_14, 300, .inl (fun _ => 0))), (q_15, .inl (cA_16, 300, .inl (fun _ => 0))), (q_17, .inl (cA_18, 300, .inl (fun _ => 0))), (q_19, .inl (cA_20, 300, .inl (fun _ => 0))), (q_21, .inl (cA_22, 300, .inl (fun _ => 0)))] := hD
  refine lv_aload_n hx hb dX8_init_119 rfl (lv_at hl 0 rfl) ?_
  refine lv_iconst (v := 0) hx hb dX8_init_120 (by decide) ?_
  refine va_put (D := (dC, dI)) (ci := 6) (v := .int 0) (ty := .boolean) (C := RX8) (T := TX8) (N := 39) hx hb hts iX8 tyX8 tyX8_ok nmX8 hown hK hP hD hS 0 rfl rfl 15 (by decide) (hts (.fieldLink RX8 57 "BatchTransferModel" "on" "Z") (by decide +kernel)) (fun _ h9 => h9) rfl (by decide +kernel) rfl rfl (Nat.le_of_ble_eq_true rfl) dX8_init_121 (fun H locs hP hD hS => ?_)
  have hP : va_P (dC, dI) vwCl [(mo, .inr (6, [.int 0, .ref q_1, .ref q_3, .int 0, .int 0, .ref q_5, .ref q_7, .ref q_9, .ref q_11, .int 0, .ref q_13, .ref q_15, .ref q_17, .ref q_19, .ref q_21, .int 0, .int 0, .int 0, .null, .int 0, .int 0, .int 0, .int 0, .int 0, .int 0, .int 0, .int 0, .int 0, .int 0, .int 0, .int 0, .int 0, .int 0, .int 0, .null, .null, .null, .null, .int 0])), (q_1, .inl (cA_2, 16, .inl (fun _ => 0))), (q_3, .inl (cA_4, 3100, .inl (fun _ => 0))), (q_5, .inl (cA_6, 96, .inl (fun _ => 0))), (q_7, .inl (cA_8, 8, .inl (fun _ => 0))), (q_9, .inl (cA_10, 24000, .inl (fun _ => 0))), (q_11, .inl (cA_12, 8, .inl (fun _ => 0))), (q_13, .inl (cA_14, 300, .inl (fun _ => 0))), (q_15, .inl (cA_16, 300, .inl (fun _ => 0))), (q_17, .inl (cA_18, 300, .inl (fun _ => 0))), (q_19, .inl (cA_20, 300, .inl (fun _ => 0))), (q_21, .inl (cA_22, 300, .inl (fun _ => 0)))] H := hP
  have hD : va_D A [(mo, .inr (6, [.int 0, .ref q_1, .ref q_3, .int 0, .int 0, .ref q_5, .ref q_7, .ref q_9, .ref q_11, .int 0, .ref q_13, .ref q_15, .ref q_17, .ref q_19, .ref q_21, .int 0, .int 0, .int 0, .null, .int 0, .int 0, .int 0, .int 0, .int 0, .int 0, .int 0, .int 0, .int 0, .int 0, .int 0, .int 0, .int 0, .int 0, .int 0, .null, .null, .null, .null, .int 0])), (q_1, .inl (cA_2, 16, .inl (fun _ => 0))), (q_3, .inl (cA_4, 3100, .inl (fun _ => 0))), (q_5, .inl (cA_6, 96, .inl (fun _ => 0))), (q_7, .inl (cA_8, 8, .inl (fun _ => 0))), (q_9, .inl (cA_10, 24000, .inl (fun _ => 0))), (q_11, .inl (cA_12, 8, .inl (fun _ => 0))), (q_13, .inl (cA_14, 300, .inl (fun _ => 0))), (q_15, .inl (cA_16, 300, .inl (fun _ => 0))), (q_17, .inl (cA_18, 300, .inl (fun _ => 0))), (q_19, .inl (cA_20, 300, .inl (fun _ => 0))), (q_21, .inl (cA_22, 300, .inl (fun _ => 0)))] := hD
  refine lv_aload_n hx hb dX8_init_124 rfl (lv_at hl 0 rfl) ?_
  refine lv_iconst (v := 0) hx hb dX8_init_125 (by decide) ?_
  refine va_put (D := (dC, dI)) (ci := 6) (v := .int 0) (ty := .boolean) (C := RX8) (T := TX8) (N := 39) hx hb hts iX8 tyX8 tyX8_ok nmX8 hown hK hP hD hS 0 rfl rfl 16 (by decide) (hts (.fieldLink RX8 61 "BatchTransferModel" "any" "Z") (by decide +kernel)) (fun _ h9 => h9) rfl (by decide +kernel) rfl rfl (Nat.le_of_ble_eq_true rfl) dX8_init_126 (fun H locs hP hD hS => ?_)
  have hP : va_P (dC, dI) vwCl [(mo, .inr (6, [.int 0, .ref q_1, .ref q_3, .int 0, .int 0, .ref q_5, .ref q_7, .ref q_9, .ref q_11, .int 0, .ref q_13, .ref q_15, .ref q_17, .ref q_19, .ref q_21, .int 0, .int 0, .int 0, .null, .int 0, .int 0, .int 0, .int 0, .int 0, .int 0, .int 0, .int 0, .int 0, .int 0, .int 0, .int 0, .int 0, .int 0, .int 0, .null, .null, .null, .null, .int 0])), (q_1, .inl (cA_2, 16, .inl (fun _ => 0))), (q_3, .inl (cA_4, 3100, .inl (fun _ => 0))), (q_5, .inl (cA_6, 96, .inl (fun _ => 0))), (q_7, .inl (cA_8, 8, .inl (fun _ => 0))), (q_9, .inl (cA_10, 24000, .inl (fun _ => 0))), (q_11, .inl (cA_12, 8, .inl (fun _ => 0))), (q_13, .inl (cA_14, 300, .inl (fun _ => 0))), (q_15, .inl (cA_16, 300, .inl (fun _ => 0))), (q_17, .inl (cA_18, 300, .inl (fun _ => 0))), (q_19, .inl (cA_20, 300, .inl (fun _ => 0))), (q_21, .inl (cA_22, 300, .inl (fun _ => 0)))] H := hP
  have hD : va_D A [(mo, .inr (6, [.int 0, .ref q_1, .ref q_3, .int 0, .int 0, .ref q_5, .ref q_7, .ref q_9, .ref q_11, .int 0, .ref q_13, .ref q_15, .ref q_17, .ref q_19, .ref q_21, .int 0, .int 0, .int 0, .null, .int 0, .int 0, .int 0, .int 0, .int 0, .int 0, .int 0, .int 0, .int 0, .int 0, .int 0, .int 0, .int 0, .int 0, .int 0, .null, .null, .null, .null, .int 0])), (q_1, .inl (cA_2, 16, .inl (fun _ => 0))), (q_3, .inl (cA_4, 3100, .inl (fun _ => 0))), (q_5, .inl (cA_6, 96, .inl (fun _ => 0))), (q_7, .inl (cA_8, 8, .inl (fun _ => 0))), (q_9, .inl (cA_10, 24000, .inl (fun _ => 0))), (q_11, .inl (cA_12, 8, .inl (fun _ => 0))), (q_13, .inl (cA_14, 300, .inl (fun _ => 0))), (q_15, .inl (cA_16, 300, .inl (fun _ => 0))), (q_17, .inl (cA_18, 300, .inl (fun _ => 0))), (q_19, .inl (cA_20, 300, .inl (fun _ => 0))), (q_21, .inl (cA_22, 300, .inl (fun _ => 0)))] := hD
  refine lv_aload_n hx hb dX8_init_129 rfl (lv_at hl 0 rfl) ?_
  refine lv_iconst (v := 0) hx hb dX8_init_130 (by decide) ?_
  refine va_put (D := (dC, dI)) (ci := 6) (v := .int 0) (ty := .int) (C := RX8) (T := TX8) (N := 39) hx hb hts iX8 tyX8 tyX8_ok nmX8 hown hK hP hD hS 0 rfl rfl 17 (by decide) (hts (.fieldLink RX8 64 "BatchTransferModel" "mode" "I") (by decide +kernel)) (fun _ h9 => h9) rfl (by decide +kernel) rfl rfl (Nat.le_of_ble_eq_true rfl) dX8_init_131 (fun H locs hP hD hS => ?_)
  have hP : va_P (dC, dI) vwCl [(mo, .inr (6, [.int 0, .ref q_1, .ref q_3, .int 0, .int 0, .ref q_5, .ref q_7, .ref q_9, .ref q_11, .int 0, .ref q_13, .ref q_15, .ref q_17, .ref q_19, .ref q_21, .int 0, .int 0, .int 0, .null, .int 0, .int 0, .int 0, .int 0, .int 0, .int 0, .int 0, .int 0, .int 0, .int 0, .int 0, .int 0, .int 0, .int 0, .int 0, .null, .null, .null, .null, .int 0])), (q_1, .inl (cA_2, 16, .inl (fun _ => 0))), (q_3, .inl (cA_4, 3100, .inl (fun _ => 0))), (q_5, .inl (cA_6, 96, .inl (fun _ => 0))), (q_7, .inl (cA_8, 8, .inl (fun _ => 0))), (q_9, .inl (cA_10, 24000, .inl (fun _ => 0))), (q_11, .inl (cA_12, 8, .inl (fun _ => 0))), (q_13, .inl (cA_14, 300, .inl (fun _ => 0))), (q_15, .inl (cA_16, 300, .inl (fun _ => 0))), (q_17, .inl (cA_18, 300, .inl (fun _ => 0))), (q_19, .inl (cA_20, 300, .inl (fun _ => 0))), (q_21, .inl (cA_22, 300, .inl (fun _ => 0)))] H := hP
  have hD : va_D A [(mo, .inr (6, [.int 0, .ref q_1, .ref q_3, .int 0, .int 0, .ref q_5, .ref q_7, .ref q_9, .ref q_11, .int 0, .ref q_13, .ref q_15, .ref q_17, .ref q_19, .ref q_21, .int 0, .int 0, .int 0, .null, .int 0, .int 0, .int 0, .int 0, .int 0, .int 0, .int 0, .int 0, .int 0, .int 0, .int 0, .int 0, .int 0, .int 0, .int 0, .null, .null, .null, .null, .int 0])), (q_1, .inl (cA_2, 16, .inl (fun _ => 0))), (q_3, .inl (cA_4, 3100, .inl (fun _ => 0))), (q_5, .inl (cA_6, 96, .inl (fun _ => 0))), (q_7, .inl (cA_8, 8, .inl (fun _ => 0))), (q_9, .inl (cA_10, 24000, .inl (fun _ => 0))), (q_11, .inl (cA_12, 8, .inl (fun _ => 0))), (q_13, .inl (cA_14, 300, .inl (fun _ => 0))), (q_15, .inl (cA_16, 300, .inl (fun _ => 0))), (q_17, .inl (cA_18, 300, .inl (fun _ => 0))), (q_19, .inl (cA_20, 300, .inl (fun _ => 0))), (q_21, .inl (cA_22, 300, .inl (fun _ => 0)))] := hD
  refine lv_aload_n hx hb dX8_init_134 rfl (lv_at hl 0 rfl) ?_
  refine lv_sipush (v := 1040) hx hb dX8_init_135 (by decide) ?_
  refine va_newa (atype := .byte) (ty := .byte) hx hb (hts (.arrayClass .byte) (by decide +kernel)) rfl hK hP hD hS hA (n := 1040) (N' := 1040) (a0 := (1040, .inl (fun _ => 0))) (nz_byte 1040) (by decide) (by decide +kernel) (nb_byte 1040 (by omega)) (show 11 + 1 ≤ 16 by omega) (show 28728 + 1040 ≤ 57880 by omega) dX8_init_138 (fun q_23 cA_24 H hK hP hD hS => ?_)
  refine W.widen (k := 12) (n := 29768) (by omega) (by omega) ?_
  have hK : va_K (dC, dI) vwCl [(cA_2, .int), (cA_4, .byte), (cA_6, .byte), (cA_8, .int), (cA_10, .byte), (cA_12, .int), (cA_14, .int), (cA_16, .int), (cA_18, .int), (cA_20, .int), (cA_22, .int), (cA_24, .byte)] s := hK
  have hP : va_P (dC, dI) vwCl [(mo, .inr (6, [.int 0, .ref q_1, .ref q_3, .int 0, .int 0, .ref q_5, .ref q_7, .ref q_9, .ref q_11, .int 0, .ref q_13, .ref q_15, .ref q_17, .ref q_19, .ref q_21, .int 0, .int 0, .int 0, .null, .int 0, .int 0, .int 0, .int 0, .int 0, .int 0, .int 0, .int 0, .int 0, .int 0, .int 0, .int 0, .int 0, .int 0, .int 0, .null, .null, .null, .null, .int 0])), (q_1, .inl (cA_2, 16, .inl (fun _ => 0))), (q_3, .inl (cA_4, 3100, .inl (fun _ => 0))), (q_5, .inl (cA_6, 96, .inl (fun _ => 0))), (q_7, .inl (cA_8, 8, .inl (fun _ => 0))), (q_9, .inl (cA_10, 24000, .inl (fun _ => 0))), (q_11, .inl (cA_12, 8, .inl (fun _ => 0))), (q_13, .inl (cA_14, 300, .inl (fun _ => 0))), (q_15, .inl (cA_16, 300, .inl (fun _ => 0))), (q_17, .inl (cA_18, 300, .inl (fun _ => 0))), (q_19, .inl (cA_20, 300, .inl (fun _ => 0))), (q_21, .inl (cA_22, 300, .inl (fun _ => 0))), (q_23, .inl (cA_24, 1040, .inl (fun _ => 0)))] H := hP
  have hD : va_D A [(mo, .inr (6, [.int 0, .ref q_1, .ref q_3, .int 0, .int 0, .ref q_5, .ref q_7, .ref q_9, .ref q_11, .int 0, .ref q_13, .ref q_15, .ref q_17, .ref q_19, .ref q_21, .int 0, .int 0, .int 0, .null, .int 0, .int 0, .int 0, .int 0, .int 0, .int 0, .int 0, .int 0, .int 0, .int 0, .int 0, .int 0, .int 0, .int 0, .int 0, .null, .null, .null, .null, .int 0])), (q_1, .inl (cA_2, 16, .inl (fun _ => 0))), (q_3, .inl (cA_4, 3100, .inl (fun _ => 0))), (q_5, .inl (cA_6, 96, .inl (fun _ => 0))), (q_7, .inl (cA_8, 8, .inl (fun _ => 0))), (q_9, .inl (cA_10, 24000, .inl (fun _ => 0))), (q_11, .inl (cA_12, 8, .inl (fun _ => 0))), (q_13, .inl (cA_14, 300, .inl (fun _ => 0))), (q_15, .inl (cA_16, 300, .inl (fun _ => 0))), (q_17, .inl (cA_18, 300, .inl (fun _ => 0))), (q_19, .inl (cA_20, 300, .inl (fun _ => 0))), (q_21, .inl (cA_22, 300, .inl (fun _ => 0))), (q_23, .inl (cA_24, 1040, .inl (fun _ => 0)))] := hD
  refine va_putF (D := (dC, dI)) (ci := 6) (v := .ref q_23) (ty := .array .byte) (C := RX8) (T := TX8) (N := 39) hx hb hts iX8 tyX8 tyX8_ok nmX8 hown hK hP hD hS 0 rfl rfl 18 (by decide) (hts (.fieldLink RX8 67 "BatchTransferModel" "wire" "[B") (by decide +kernel)) (fun _ h9 => h9) rfl hin rfl (by decide +kernel) rfl rfl (Nat.le_of_ble_eq_true rfl) dX8_init_140 (fun H locs hP hD hS => ?_)
  have hP : va_P (dC, dI) vwCl [(mo, .inr (6, [.int 0, .ref q_1, .ref q_3, .int 0, .int 0, .ref q_5, .ref q_7, .ref q_9, .ref q_11, .int 0, .ref q_13, .ref q_15, .ref q_17, .ref q_19, .ref q_21, .int 0, .int 0, .int 0, .ref q_23, .int 0, .int 0, .int 0, .int 0, .int 0, .int 0, .int 0, .int 0, .int 0, .int 0, .int 0, .int 0, .int 0, .int 0, .int 0, .null, .null, .null, .null, .int 0])), (q_1, .inl (cA_2, 16, .inl (fun _ => 0))), (q_3, .inl (cA_4, 3100, .inl (fun _ => 0))), (q_5, .inl (cA_6, 96, .inl (fun _ => 0))), (q_7, .inl (cA_8, 8, .inl (fun _ => 0))), (q_9, .inl (cA_10, 24000, .inl (fun _ => 0))), (q_11, .inl (cA_12, 8, .inl (fun _ => 0))), (q_13, .inl (cA_14, 300, .inl (fun _ => 0))), (q_15, .inl (cA_16, 300, .inl (fun _ => 0))), (q_17, .inl (cA_18, 300, .inl (fun _ => 0))), (q_19, .inl (cA_20, 300, .inl (fun _ => 0))), (q_21, .inl (cA_22, 300, .inl (fun _ => 0))), (q_23, .inl (cA_24, 1040, .inl (fun _ => 0)))] H := hP
  have hD : va_D A [(mo, .inr (6, [.int 0, .ref q_1, .ref q_3, .int 0, .int 0, .ref q_5, .ref q_7, .ref q_9, .ref q_11, .int 0, .ref q_13, .ref q_15, .ref q_17, .ref q_19, .ref q_21, .int 0, .int 0, .int 0, .ref q_23, .int 0, .int 0, .int 0, .int 0, .int 0, .int 0, .int 0, .int 0, .int 0, .int 0, .int 0, .int 0, .int 0, .int 0, .int 0, .null, .null, .null, .null, .int 0])), (q_1, .inl (cA_2, 16, .inl (fun _ => 0))), (q_3, .inl (cA_4, 3100, .inl (fun _ => 0))), (q_5, .inl (cA_6, 96, .inl (fun _ => 0))), (q_7, .inl (cA_8, 8, .inl (fun _ => 0))), (q_9, .inl (cA_10, 24000, .inl (fun _ => 0))), (q_11, .inl (cA_12, 8, .inl (fun _ => 0))), (q_13, .inl (cA_14, 300, .inl (fun _ => 0))), (q_15, .inl (cA_16, 300, .inl (fun _ => 0))), (q_17, .inl (cA_18, 300, .inl (fun _ => 0))), (q_19, .inl (cA_20, 300, .inl (fun _ => 0))), (q_21, .inl (cA_22, 300, .inl (fun _ => 0))), (q_23, .inl (cA_24, 1040, .inl (fun _ => 0)))] := hD
  refine lv_aload_n hx hb dX8_init_143 rfl (lv_at hl 0 rfl) ?_
  refine lv_iconst (v := 0) hx hb dX8_init_144 (by decide) ?_
  refine va_put (D := (dC, dI)) (ci := 6) (v := .int 0) (ty := .int) (C := RX8) (T := TX8) (N := 39) hx hb hts iX8 tyX8 tyX8_ok nmX8 hown hK hP hD hS 0 rfl rfl 19 (by decide) (hts (.fieldLink RX8 70 "BatchTransferModel" "wireLen" "I") (by decide +kernel)) (fun _ h9 => h9) rfl (by decide +kernel) rfl rfl (Nat.le_of_ble_eq_true rfl) dX8_init_145 (fun H locs hP hD hS => ?_)
  have hP : va_P (dC, dI) vwCl [(mo, .inr (6, [.int 0, .ref q_1, .ref q_3, .int 0, .int 0, .ref q_5, .ref q_7, .ref q_9, .ref q_11, .int 0, .ref q_13, .ref q_15, .ref q_17, .ref q_19, .ref q_21, .int 0, .int 0, .int 0, .ref q_23, .int 0, .int 0, .int 0, .int 0, .int 0, .int 0, .int 0, .int 0, .int 0, .int 0, .int 0, .int 0, .int 0, .int 0, .int 0, .null, .null, .null, .null, .int 0])), (q_1, .inl (cA_2, 16, .inl (fun _ => 0))), (q_3, .inl (cA_4, 3100, .inl (fun _ => 0))), (q_5, .inl (cA_6, 96, .inl (fun _ => 0))), (q_7, .inl (cA_8, 8, .inl (fun _ => 0))), (q_9, .inl (cA_10, 24000, .inl (fun _ => 0))), (q_11, .inl (cA_12, 8, .inl (fun _ => 0))), (q_13, .inl (cA_14, 300, .inl (fun _ => 0))), (q_15, .inl (cA_16, 300, .inl (fun _ => 0))), (q_17, .inl (cA_18, 300, .inl (fun _ => 0))), (q_19, .inl (cA_20, 300, .inl (fun _ => 0))), (q_21, .inl (cA_22, 300, .inl (fun _ => 0))), (q_23, .inl (cA_24, 1040, .inl (fun _ => 0)))] H := hP
  have hD : va_D A [(mo, .inr (6, [.int 0, .ref q_1, .ref q_3, .int 0, .int 0, .ref q_5, .ref q_7, .ref q_9, .ref q_11, .int 0, .ref q_13, .ref q_15, .ref q_17, .ref q_19, .ref q_21, .int 0, .int 0, .int 0, .ref q_23, .int 0, .int 0, .int 0, .int 0, .int 0, .int 0, .int 0, .int 0, .int 0, .int 0, .int 0, .int 0, .int 0, .int 0, .int 0, .null, .null, .null, .null, .int 0])), (q_1, .inl (cA_2, 16, .inl (fun _ => 0))), (q_3, .inl (cA_4, 3100, .inl (fun _ => 0))), (q_5, .inl (cA_6, 96, .inl (fun _ => 0))), (q_7, .inl (cA_8, 8, .inl (fun _ => 0))), (q_9, .inl (cA_10, 24000, .inl (fun _ => 0))), (q_11, .inl (cA_12, 8, .inl (fun _ => 0))), (q_13, .inl (cA_14, 300, .inl (fun _ => 0))), (q_15, .inl (cA_16, 300, .inl (fun _ => 0))), (q_17, .inl (cA_18, 300, .inl (fun _ => 0))), (q_19, .inl (cA_20, 300, .inl (fun _ => 0))), (q_21, .inl (cA_22, 300, .inl (fun _ => 0))), (q_23, .inl (cA_24, 1040, .inl (fun _ => 0)))] := hD
  refine lv_aload_n hx hb dX8_init_148 rfl (lv_at hl 0 rfl) ?_
  refine lv_iconst (v := 0) hx hb dX8_init_149 (by decide) ?_
  refine va_put (D := (dC, dI)) (ci := 6) (v := .int 0) (ty := .boolean) (C := RX8) (T := TX8) (N := 39) hx hb hts iX8 tyX8 tyX8_ok nmX8 hown hK hP hD hS 0 rfl rfl 20 (by decide) (hts (.fieldLink RX8 73 "BatchTransferModel" "toSender" "Z") (by decide +kernel)) (fun _ h9 => h9) rfl (by decide +kernel) rfl rfl (Nat.le_of_ble_eq_true rfl) dX8_init_150 (fun H locs hP hD hS => ?_)
  have hP : va_P (dC, dI) vwCl [(mo, .inr (6, [.int 0, .ref q_1, .ref q_3, .int 0, .int 0, .ref q_5, .ref q_7, .ref q_9, .ref q_11, .int 0, .ref q_13, .ref q_15, .ref q_17, .ref q_19, .ref q_21, .int 0, .int 0, .int 0, .ref q_23, .int 0, .int 0, .int 0, .int 0, .int 0, .int 0, .int 0, .int 0, .int 0, .int 0, .int 0, .int 0, .int 0, .int 0, .int 0, .null, .null, .null, .null, .int 0])), (q_1, .inl (cA_2, 16, .inl (fun _ => 0))), (q_3, .inl (cA_4, 3100, .inl (fun _ => 0))), (q_5, .inl (cA_6, 96, .inl (fun _ => 0))), (q_7, .inl (cA_8, 8, .inl (fun _ => 0))), (q_9, .inl (cA_10, 24000, .inl (fun _ => 0))), (q_11, .inl (cA_12, 8, .inl (fun _ => 0))), (q_13, .inl (cA_14, 300, .inl (fun _ => 0))), (q_15, .inl (cA_16, 300, .inl (fun _ => 0))), (q_17, .inl (cA_18, 300, .inl (fun _ => 0))), (q_19, .inl (cA_20, 300, .inl (fun _ => 0))), (q_21, .inl (cA_22, 300, .inl (fun _ => 0))), (q_23, .inl (cA_24, 1040, .inl (fun _ => 0)))] H := hP
  have hD : va_D A [(mo, .inr (6, [.int 0, .ref q_1, .ref q_3, .int 0, .int 0, .ref q_5, .ref q_7, .ref q_9, .ref q_11, .int 0, .ref q_13, .ref q_15, .ref q_17, .ref q_19, .ref q_21, .int 0, .int 0, .int 0, .ref q_23, .int 0, .int 0, .int 0, .int 0, .int 0, .int 0, .int 0, .int 0, .int 0, .int 0, .int 0, .int 0, .int 0, .int 0, .int 0, .null, .null, .null, .null, .int 0])), (q_1, .inl (cA_2, 16, .inl (fun _ => 0))), (q_3, .inl (cA_4, 3100, .inl (fun _ => 0))), (q_5, .inl (cA_6, 96, .inl (fun _ => 0))), (q_7, .inl (cA_8, 8, .inl (fun _ => 0))), (q_9, .inl (cA_10, 24000, .inl (fun _ => 0))), (q_11, .inl (cA_12, 8, .inl (fun _ => 0))), (q_13, .inl (cA_14, 300, .inl (fun _ => 0))), (q_15, .inl (cA_16, 300, .inl (fun _ => 0))), (q_17, .inl (cA_18, 300, .inl (fun _ => 0))), (q_19, .inl (cA_20, 300, .inl (fun _ => 0))), (q_21, .inl (cA_22, 300, .inl (fun _ => 0))), (q_23, .inl (cA_24, 1040, .inl (fun _ => 0)))] := hD
  refine lv_aload_n hx hb dX8_init_153 rfl (lv_at hl 0 rfl) ?_
  refine lv_iconst (v := 0) hx hb dX8_init_154 (by decide) ?_
  refine va_put (D := (dC, dI)) (ci := 6) (v := .int 0) (ty := .boolean) (C := RX8) (T := TX8) (N := 39) hx hb hts iX8 tyX8 tyX8_ok nmX8 hown hK hP hD hS 0 rfl rfl 21 (by decide) (hts (.fieldLink RX8 76 "BatchTransferModel" "told" "Z") (by decide +kernel)) (fun _ h9 => h9) rfl (by decide +kernel) rfl rfl (Nat.le_of_ble_eq_true rfl) dX8_init_155 (fun H locs hP hD hS => ?_)
  have hP : va_P (dC, dI) vwCl [(mo, .inr (6, [.int 0, .ref q_1, .ref q_3, .int 0, .int 0, .ref q_5, .ref q_7, .ref q_9, .ref q_11, .int 0, .ref q_13, .ref q_15, .ref q_17, .ref q_19, .ref q_21, .int 0, .int 0, .int 0, .ref q_23, .int 0, .int 0, .int 0, .int 0, .int 0, .int 0, .int 0, .int 0, .int 0, .int 0, .int 0, .int 0, .int 0, .int 0, .int 0, .null, .null, .null, .null, .int 0])), (q_1, .inl (cA_2, 16, .inl (fun _ => 0))), (q_3, .inl (cA_4, 3100, .inl (fun _ => 0))), (q_5, .inl (cA_6, 96, .inl (fun _ => 0))), (q_7, .inl (cA_8, 8, .inl (fun _ => 0))), (q_9, .inl (cA_10, 24000, .inl (fun _ => 0))), (q_11, .inl (cA_12, 8, .inl (fun _ => 0))), (q_13, .inl (cA_14, 300, .inl (fun _ => 0))), (q_15, .inl (cA_16, 300, .inl (fun _ => 0))), (q_17, .inl (cA_18, 300, .inl (fun _ => 0))), (q_19, .inl (cA_20, 300, .inl (fun _ => 0))), (q_21, .inl (cA_22, 300, .inl (fun _ => 0))), (q_23, .inl (cA_24, 1040, .inl (fun _ => 0)))] H := hP
  have hD : va_D A [(mo, .inr (6, [.int 0, .ref q_1, .ref q_3, .int 0, .int 0, .ref q_5, .ref q_7, .ref q_9, .ref q_11, .int 0, .ref q_13, .ref q_15, .ref q_17, .ref q_19, .ref q_21, .int 0, .int 0, .int 0, .ref q_23, .int 0, .int 0, .int 0, .int 0, .int 0, .int 0, .int 0, .int 0, .int 0, .int 0, .int 0, .int 0, .int 0, .int 0, .int 0, .null, .null, .null, .null, .int 0])), (q_1, .inl (cA_2, 16, .inl (fun _ => 0))), (q_3, .inl (cA_4, 3100, .inl (fun _ => 0))), (q_5, .inl (cA_6, 96, .inl (fun _ => 0))), (q_7, .inl (cA_8, 8, .inl (fun _ => 0))), (q_9, .inl (cA_10, 24000, .inl (fun _ => 0))), (q_11, .inl (cA_12, 8, .inl (fun _ => 0))), (q_13, .inl (cA_14, 300, .inl (fun _ => 0))), (q_15, .inl (cA_16, 300, .inl (fun _ => 0))), (q_17, .inl (cA_18, 300, .inl (fun _ => 0))), (q_19, .inl (cA_20, 300, .inl (fun _ => 0))), (q_21, .inl (cA_22, 300, .inl (fun _ => 0))), (q_23, .inl (cA_24, 1040, .inl (fun _ => 0)))] := hD
  refine lv_aload_n hx hb dX8_init_158 rfl (lv_at hl 0 rfl) ?_
  refine lv_iconst (v := 0) hx hb dX8_init_159 (by decide) ?_
  refine va_put (D := (dC, dI)) (ci := 6) (v := .int 0) (ty := .int) (C := RX8) (T := TX8) (N := 39) hx hb hts iX8 tyX8 tyX8_ok nmX8 hown hK hP hD hS 0 rfl rfl 22 (by decide) (hts (.fieldLink RX8 79 "BatchTransferModel" "toldAt" "I") (by decide +kernel)) (fun _ h9 => h9) rfl (by decide +kernel) rfl rfl (Nat.le_of_ble_eq_true rfl) dX8_init_160 (fun H locs hP hD hS => ?_)
  have hP : va_P (dC, dI) vwCl [(mo, .inr (6, [.int 0, .ref q_1, .ref q_3, .int 0, .int 0, .ref q_5, .ref q_7, .ref q_9, .ref q_11, .int 0, .ref q_13, .ref q_15, .ref q_17, .ref q_19, .ref q_21, .int 0, .int 0, .int 0, .ref q_23, .int 0, .int 0, .int 0, .int 0, .int 0, .int 0, .int 0, .int 0, .int 0, .int 0, .int 0, .int 0, .int 0, .int 0, .int 0, .null, .null, .null, .null, .int 0])), (q_1, .inl (cA_2, 16, .inl (fun _ => 0))), (q_3, .inl (cA_4, 3100, .inl (fun _ => 0))), (q_5, .inl (cA_6, 96, .inl (fun _ => 0))), (q_7, .inl (cA_8, 8, .inl (fun _ => 0))), (q_9, .inl (cA_10, 24000, .inl (fun _ => 0))), (q_11, .inl (cA_12, 8, .inl (fun _ => 0))), (q_13, .inl (cA_14, 300, .inl (fun _ => 0))), (q_15, .inl (cA_16, 300, .inl (fun _ => 0))), (q_17, .inl (cA_18, 300, .inl (fun _ => 0))), (q_19, .inl (cA_20, 300, .inl (fun _ => 0))), (q_21, .inl (cA_22, 300, .inl (fun _ => 0))), (q_23, .inl (cA_24, 1040, .inl (fun _ => 0)))] H := hP
  have hD : va_D A [(mo, .inr (6, [.int 0, .ref q_1, .ref q_3, .int 0, .int 0, .ref q_5, .ref q_7, .ref q_9, .ref q_11, .int 0, .ref q_13, .ref q_15, .ref q_17, .ref q_19, .ref q_21, .int 0, .int 0, .int 0, .ref q_23, .int 0, .int 0, .int 0, .int 0, .int 0, .int 0, .int 0, .int 0, .int 0, .int 0, .int 0, .int 0, .int 0, .int 0, .int 0, .null, .null, .null, .null, .int 0])), (q_1, .inl (cA_2, 16, .inl (fun _ => 0))), (q_3, .inl (cA_4, 3100, .inl (fun _ => 0))), (q_5, .inl (cA_6, 96, .inl (fun _ => 0))), (q_7, .inl (cA_8, 8, .inl (fun _ => 0))), (q_9, .inl (cA_10, 24000, .inl (fun _ => 0))), (q_11, .inl (cA_12, 8, .inl (fun _ => 0))), (q_13, .inl (cA_14, 300, .inl (fun _ => 0))), (q_15, .inl (cA_16, 300, .inl (fun _ => 0))), (q_17, .inl (cA_18, 300, .inl (fun _ => 0))), (q_19, .inl (cA_20, 300, .inl (fun _ => 0))), (q_21, .inl (cA_22, 300, .inl (fun _ => 0))), (q_23, .inl (cA_24, 1040, .inl (fun _ => 0)))] := hD
  refine lv_aload_n hx hb dX8_init_163 rfl (lv_at hl 0 rfl) ?_
  refine lv_iconst (v := 0) hx hb dX8_init_164 (by decide) ?_
  refine va_put (D := (dC, dI)) (ci := 6) (v := .int 0) (ty := .int) (C := RX8) (T := TX8) (N := 39) hx hb hts iX8 tyX8 tyX8_ok nmX8 hown hK hP hD hS 0 rfl rfl 23 (by decide) (hts (.fieldLink RX8 82 "BatchTransferModel" "toldMask" "I") (by decide +kernel)) (fun _ h9 => h9) rfl (by decide +kernel) rfl rfl (Nat.le_of_ble_eq_true rfl) dX8_init_165 (fun H locs hP hD hS => ?_)
  have hP : va_P (dC, dI) vwCl [(mo, .inr (6, [.int 0, .ref q_1, .ref q_3, .int 0, .int 0, .ref q_5, .ref q_7, .ref q_9, .ref q_11, .int 0, .ref q_13, .ref q_15, .ref q_17, .ref q_19, .ref q_21, .int 0, .int 0, .int 0, .ref q_23, .int 0, .int 0, .int 0, .int 0, .int 0, .int 0, .int 0, .int 0, .int 0, .int 0, .int 0, .int 0, .int 0, .int 0, .int 0, .null, .null, .null, .null, .int 0])), (q_1, .inl (cA_2, 16, .inl (fun _ => 0))), (q_3, .inl (cA_4, 3100, .inl (fun _ => 0))), (q_5, .inl (cA_6, 96, .inl (fun _ => 0))), (q_7, .inl (cA_8, 8, .inl (fun _ => 0))), (q_9, .inl (cA_10, 24000, .inl (fun _ => 0))), (q_11, .inl (cA_12, 8, .inl (fun _ => 0))), (q_13, .inl (cA_14, 300, .inl (fun _ => 0))), (q_15, .inl (cA_16, 300, .inl (fun _ => 0))), (q_17, .inl (cA_18, 300, .inl (fun _ => 0))), (q_19, .inl (cA_20, 300, .inl (fun _ => 0))), (q_21, .inl (cA_22, 300, .inl (fun _ => 0))), (q_23, .inl (cA_24, 1040, .inl (fun _ => 0)))] H := hP
  have hD : va_D A [(mo, .inr (6, [.int 0, .ref q_1, .ref q_3, .int 0, .int 0, .ref q_5, .ref q_7, .ref q_9, .ref q_11, .int 0, .ref q_13, .ref q_15, .ref q_17, .ref q_19, .ref q_21, .int 0, .int 0, .int 0, .ref q_23, .int 0, .int 0, .int 0, .int 0, .int 0, .int 0, .int 0, .int 0, .int 0, .int 0, .int 0, .int 0, .int 0, .int 0, .int 0, .null, .null, .null, .null, .int 0])), (q_1, .inl (cA_2, 16, .inl (fun _ => 0))), (q_3, .inl (cA_4, 3100, .inl (fun _ => 0))), (q_5, .inl (cA_6, 96, .inl (fun _ => 0))), (q_7, .inl (cA_8, 8, .inl (fun _ => 0))), (q_9, .inl (cA_10, 24000, .inl (fun _ => 0))), (q_11, .inl (cA_12, 8, .inl (fun _ => 0))), (q_13, .inl (cA_14, 300, .inl (fun _ => 0))), (q_15, .inl (cA_16, 300, .inl (fun _ => 0))), (q_17, .inl (cA_18, 300, .inl (fun _ => 0))), (q_19, .inl (cA_20, 300, .inl (fun _ => 0))), (q_21, .inl (cA_22, 300, .inl (fun _ => 0))), (q_23, .inl (cA_24, 1040, .inl (fun _ => 0)))] := hD
  refine lv_aload_n hx hb dX8_init_168 rfl (lv_at hl 0 rfl) ?_
  refine lv_iconst (v := 0) hx hb dX8_init_169 (by decide) ?_
  refine va_put (D := (dC, dI)) (ci := 6) (v := .int 0) (ty := .int) (C := RX8) (T := TX8) (N := 39) hx hb hts iX8 tyX8 tyX8_ok nmX8 hown hK hP hD hS 0 rfl rfl 24 (by decide) (hts (.fieldLink RX8 85 "BatchTransferModel" "senderState" "I") (by decide +kernel)) (fun _ h9 => h9) rfl (by decide +kernel) rfl rfl (Nat.le_of_ble_eq_true rfl) dX8_init_170 (fun H locs hP hD hS => ?_)
  have hP : va_P (dC, dI) vwCl [(mo, .inr (6, [.int 0, .ref q_1, .ref q_3, .int 0, .int 0, .ref q_5, .ref q_7, .ref q_9, .ref q_11, .int 0, .ref q_13, .ref q_15, .ref q_17, .ref q_19, .ref q_21, .int 0, .int 0, .int 0, .ref q_23, .int 0, .int 0, .int 0, .int 0, .int 0, .int 0, .int 0, .int 0, .int 0, .int 0, .int 0, .int 0, .int 0, .int 0, .int 0, .null, .null, .null, .null, .int 0])), (q_1, .inl (cA_2, 16, .inl (fun _ => 0))), (q_3, .inl (cA_4, 3100, .inl (fun _ => 0))), (q_5, .inl (cA_6, 96, .inl (fun _ => 0))), (q_7, .inl (cA_8, 8, .inl (fun _ => 0))), (q_9, .inl (cA_10, 24000, .inl (fun _ => 0))), (q_11, .inl (cA_12, 8, .inl (fun _ => 0))), (q_13, .inl (cA_14, 300, .inl (fun _ => 0))), (q_15, .inl (cA_16, 300, .inl (fun _ => 0))), (q_17, .inl (cA_18, 300, .inl (fun _ => 0))), (q_19, .inl (cA_20, 300, .inl (fun _ => 0))), (q_21, .inl (cA_22, 300, .inl (fun _ => 0))), (q_23, .inl (cA_24, 1040, .inl (fun _ => 0)))] H := hP
  have hD : va_D A [(mo, .inr (6, [.int 0, .ref q_1, .ref q_3, .int 0, .int 0, .ref q_5, .ref q_7, .ref q_9, .ref q_11, .int 0, .ref q_13, .ref q_15, .ref q_17, .ref q_19, .ref q_21, .int 0, .int 0, .int 0, .ref q_23, .int 0, .int 0, .int 0, .int 0, .int 0, .int 0, .int 0, .int 0, .int 0, .int 0, .int 0, .int 0, .int 0, .int 0, .int 0, .null, .null, .null, .null, .int 0])), (q_1, .inl (cA_2, 16, .inl (fun _ => 0))), (q_3, .inl (cA_4, 3100, .inl (fun _ => 0))), (q_5, .inl (cA_6, 96, .inl (fun _ => 0))), (q_7, .inl (cA_8, 8, .inl (fun _ => 0))), (q_9, .inl (cA_10, 24000, .inl (fun _ => 0))), (q_11, .inl (cA_12, 8, .inl (fun _ => 0))), (q_13, .inl (cA_14, 300, .inl (fun _ => 0))), (q_15, .inl (cA_16, 300, .inl (fun _ => 0))), (q_17, .inl (cA_18, 300, .inl (fun _ => 0))), (q_19, .inl (cA_20, 300, .inl (fun _ => 0))), (q_21, .inl (cA_22, 300, .inl (fun _ => 0))), (q_23, .inl (cA_24, 1040, .inl (fun _ => 0)))] := hD
  refine lv_aload_n hx hb dX8_init_173 rfl (lv_at hl 0 rfl) ?_
  refine lv_iconst (v := 0) hx hb dX8_init_174 (by decide) ?_
  refine va_put (D := (dC, dI)) (ci := 6) (v := .int 0) (ty := .int) (C := RX8) (T := TX8) (N := 39) hx hb hts iX8 tyX8 tyX8_ok nmX8 hown hK hP hD hS 0 rfl rfl 25 (by decide) (hts (.fieldLink RX8 88 "BatchTransferModel" "senderMisses" "I") (by decide +kernel)) (fun _ h9 => h9) rfl (by decide +kernel) rfl rfl (Nat.le_of_ble_eq_true rfl) dX8_init_175 (fun H locs hP hD hS => ?_)
  have hP : va_P (dC, dI) vwCl [(mo, .inr (6, [.int 0, .ref q_1, .ref q_3, .int 0, .int 0, .ref q_5, .ref q_7, .ref q_9, .ref q_11, .int 0, .ref q_13, .ref q_15, .ref q_17, .ref q_19, .ref q_21, .int 0, .int 0, .int 0, .ref q_23, .int 0, .int 0, .int 0, .int 0, .int 0, .int 0, .int 0, .int 0, .int 0, .int 0, .int 0, .int 0, .int 0, .int 0, .int 0, .null, .null, .null, .null, .int 0])), (q_1, .inl (cA_2, 16, .inl (fun _ => 0))), (q_3, .inl (cA_4, 3100, .inl (fun _ => 0))), (q_5, .inl (cA_6, 96, .inl (fun _ => 0))), (q_7, .inl (cA_8, 8, .inl (fun _ => 0))), (q_9, .inl (cA_10, 24000, .inl (fun _ => 0))), (q_11, .inl (cA_12, 8, .inl (fun _ => 0))), (q_13, .inl (cA_14, 300, .inl (fun _ => 0))), (q_15, .inl (cA_16, 300, .inl (fun _ => 0))), (q_17, .inl (cA_18, 300, .inl (fun _ => 0))), (q_19, .inl (cA_20, 300, .inl (fun _ => 0))), (q_21, .inl (cA_22, 300, .inl (fun _ => 0))), (q_23, .inl (cA_24, 1040, .inl (fun _ => 0)))] H := hP
  have hD : va_D A [(mo, .inr (6, [.int 0, .ref q_1, .ref q_3, .int 0, .int 0, .ref q_5, .ref q_7, .ref q_9, .ref q_11, .int 0, .ref q_13, .ref q_15, .ref q_17, .ref q_19, .ref q_21, .int 0, .int 0, .int 0, .ref q_23, .int 0, .int 0, .int 0, .int 0, .int 0, .int 0, .int 0, .int 0, .int 0, .int 0, .int 0, .int 0, .int 0, .int 0, .int 0, .null, .null, .null, .null, .int 0])), (q_1, .inl (cA_2, 16, .inl (fun _ => 0))), (q_3, .inl (cA_4, 3100, .inl (fun _ => 0))), (q_5, .inl (cA_6, 96, .inl (fun _ => 0))), (q_7, .inl (cA_8, 8, .inl (fun _ => 0))), (q_9, .inl (cA_10, 24000, .inl (fun _ => 0))), (q_11, .inl (cA_12, 8, .inl (fun _ => 0))), (q_13, .inl (cA_14, 300, .inl (fun _ => 0))), (q_15, .inl (cA_16, 300, .inl (fun _ => 0))), (q_17, .inl (cA_18, 300, .inl (fun _ => 0))), (q_19, .inl (cA_20, 300, .inl (fun _ => 0))), (q_21, .inl (cA_22, 300, .inl (fun _ => 0))), (q_23, .inl (cA_24, 1040, .inl (fun _ => 0)))] := hD
  refine lv_aload_n hx hb dX8_init_178 rfl (lv_at hl 0 rfl) ?_
  refine lv_iconst (v := 0) hx hb dX8_init_179 (by decide) ?_
  refine va_put (D := (dC, dI)) (ci := 6) (v := .int 0) (ty := .int) (C := RX8) (T := TX8) (N := 39) hx hb hts iX8 tyX8 tyX8_ok nmX8 hown hK hP hD hS 0 rfl rfl 26 (by decide) (hts (.fieldLink RX8 91 "BatchTransferModel" "unit" "I") (by decide +kernel)) (fun _ h9 => h9) rfl (by decide +kernel) rfl rfl (Nat.le_of_ble_eq_true rfl) dX8_init_180 (fun H locs hP hD hS => ?_)
  have hP : va_P (dC, dI) vwCl [(mo, .inr (6, [.int 0, .ref q_1, .ref q_3, .int 0, .int 0, .ref q_5, .ref q_7, .ref q_9, .ref q_11, .int 0, .ref q_13, .ref q_15, .ref q_17, .ref q_19, .ref q_21, .int 0, .int 0, .int 0, .ref q_23, .int 0, .int 0, .int 0, .int 0, .int 0, .int 0, .int 0, .int 0, .int 0, .int 0, .int 0, .int 0, .int 0, .int 0, .int 0, .null, .null, .null, .null, .int 0])), (q_1, .inl (cA_2, 16, .inl (fun _ => 0))), (q_3, .inl (cA_4, 3100, .inl (fun _ => 0))), (q_5, .inl (cA_6, 96, .inl (fun _ => 0))), (q_7, .inl (cA_8, 8, .inl (fun _ => 0))), (q_9, .inl (cA_10, 24000, .inl (fun _ => 0))), (q_11, .inl (cA_12, 8, .inl (fun _ => 0))), (q_13, .inl (cA_14, 300, .inl (fun _ => 0))), (q_15, .inl (cA_16, 300, .inl (fun _ => 0))), (q_17, .inl (cA_18, 300, .inl (fun _ => 0))), (q_19, .inl (cA_20, 300, .inl (fun _ => 0))), (q_21, .inl (cA_22, 300, .inl (fun _ => 0))), (q_23, .inl (cA_24, 1040, .inl (fun _ => 0)))] H := hP
  have hD : va_D A [(mo, .inr (6, [.int 0, .ref q_1, .ref q_3, .int 0, .int 0, .ref q_5, .ref q_7, .ref q_9, .ref q_11, .int 0, .ref q_13, .ref q_15, .ref q_17, .ref q_19, .ref q_21, .int 0, .int 0, .int 0, .ref q_23, .int 0, .int 0, .int 0, .int 0, .int 0, .int 0, .int 0, .int 0, .int 0, .int 0, .int 0, .int 0, .int 0, .int 0, .int 0, .null, .null, .null, .null, .int 0])), (q_1, .inl (cA_2, 16, .inl (fun _ => 0))), (q_3, .inl (cA_4, 3100, .inl (fun _ => 0))), (q_5, .inl (cA_6, 96, .inl (fun _ => 0))), (q_7, .inl (cA_8, 8, .inl (fun _ => 0))), (q_9, .inl (cA_10, 24000, .inl (fun _ => 0))), (q_11, .inl (cA_12, 8, .inl (fun _ => 0))), (q_13, .inl (cA_14, 300, .inl (fun _ => 0))), (q_15, .inl (cA_16, 300, .inl (fun _ => 0))), (q_17, .inl (cA_18, 300, .inl (fun _ => 0))), (q_19, .inl (cA_20, 300, .inl (fun _ => 0))), (q_21, .inl (cA_22, 300, .inl (fun _ => 0))), (q_23, .inl (cA_24, 1040, .inl (fun _ => 0)))] := hD
  refine lv_aload_n hx hb dX8_init_183 rfl (lv_at hl 0 rfl) ?_
  refine lv_iconst (v := 0) hx hb dX8_init_184 (by decide) ?_
  refine va_put (D := (dC, dI)) (ci := 6) (v := .int 0) (ty := .int) (C := RX8) (T := TX8) (N := 39) hx hb hts iX8 tyX8 tyX8_ok nmX8 hown hK hP hD hS 0 rfl rfl 27 (by decide) (hts (.fieldLink RX8 94 "BatchTransferModel" "receiverState" "I") (by decide +kernel)) (fun _ h9 => h9) rfl (by decide +kernel) rfl rfl (Nat.le_of_ble_eq_true rfl) dX8_init_185 (fun H locs hP hD hS => ?_)
  have hP : va_P (dC, dI) vwCl [(mo, .inr (6, [.int 0, .ref q_1, .ref q_3, .int 0, .int 0, .ref q_5, .ref q_7, .ref q_9, .ref q_11, .int 0, .ref q_13, .ref q_15, .ref q_17, .ref q_19, .ref q_21, .int 0, .int 0, .int 0, .ref q_23, .int 0, .int 0, .int 0, .int 0, .int 0, .int 0, .int 0, .int 0, .int 0, .int 0, .int 0, .int 0, .int 0, .int 0, .int 0, .null, .null, .null, .null, .int 0])), (q_1, .inl (cA_2, 16, .inl (fun _ => 0))), (q_3, .inl (cA_4, 3100, .inl (fun _ => 0))), (q_5, .inl (cA_6, 96, .inl (fun _ => 0))), (q_7, .inl (cA_8, 8, .inl (fun _ => 0))), (q_9, .inl (cA_10, 24000, .inl (fun _ => 0))), (q_11, .inl (cA_12, 8, .inl (fun _ => 0))), (q_13, .inl (cA_14, 300, .inl (fun _ => 0))), (q_15, .inl (cA_16, 300, .inl (fun _ => 0))), (q_17, .inl (cA_18, 300, .inl (fun _ => 0))), (q_19, .inl (cA_20, 300, .inl (fun _ => 0))), (q_21, .inl (cA_22, 300, .inl (fun _ => 0))), (q_23, .inl (cA_24, 1040, .inl (fun _ => 0)))] H := hP
  have hD : va_D A [(mo, .inr (6, [.int 0, .ref q_1, .ref q_3, .int 0, .int 0, .ref q_5, .ref q_7, .ref q_9, .ref q_11, .int 0, .ref q_13, .ref q_15, .ref q_17, .ref q_19, .ref q_21, .int 0, .int 0, .int 0, .ref q_23, .int 0, .int 0, .int 0, .int 0, .int 0, .int 0, .int 0, .int 0, .int 0, .int 0, .int 0, .int 0, .int 0, .int 0, .int 0, .null, .null, .null, .null, .int 0])), (q_1, .inl (cA_2, 16, .inl (fun _ => 0))), (q_3, .inl (cA_4, 3100, .inl (fun _ => 0))), (q_5, .inl (cA_6, 96, .inl (fun _ => 0))), (q_7, .inl (cA_8, 8, .inl (fun _ => 0))), (q_9, .inl (cA_10, 24000, .inl (fun _ => 0))), (q_11, .inl (cA_12, 8, .inl (fun _ => 0))), (q_13, .inl (cA_14, 300, .inl (fun _ => 0))), (q_15, .inl (cA_16, 300, .inl (fun _ => 0))), (q_17, .inl (cA_18, 300, .inl (fun _ => 0))), (q_19, .inl (cA_20, 300, .inl (fun _ => 0))), (q_21, .inl (cA_22, 300, .inl (fun _ => 0))), (q_23, .inl (cA_24, 1040, .inl (fun _ => 0)))] := hD
  refine lv_aload_n hx hb dX8_init_188 rfl (lv_at hl 0 rfl) ?_
  refine lv_iconst (v := 0) hx hb dX8_init_189 (by decide) ?_
  refine va_put (D := (dC, dI)) (ci := 6) (v := .int 0) (ty := .int) (C := RX8) (T := TX8) (N := 39) hx hb hts iX8 tyX8 tyX8_ok nmX8 hown hK hP hD hS 0 rfl rfl 28 (by decide) (hts (.fieldLink RX8 97 "BatchTransferModel" "receiverMisses" "I") (by decide +kernel)) (fun _ h9 => h9) rfl (by decide +kernel) rfl rfl (Nat.le_of_ble_eq_true rfl) dX8_init_190 (fun H locs hP hD hS => ?_)
  have hP : va_P (dC, dI) vwCl [(mo, .inr (6, [.int 0, .ref q_1, .ref q_3, .int 0, .int 0, .ref q_5, .ref q_7, .ref q_9, .ref q_11, .int 0, .ref q_13, .ref q_15, .ref q_17, .ref q_19, .ref q_21, .int 0, .int 0, .int 0, .ref q_23, .int 0, .int 0, .int 0, .int 0, .int 0, .int 0, .int 0, .int 0, .int 0, .int 0, .int 0, .int 0, .int 0, .int 0, .int 0, .null, .null, .null, .null, .int 0])), (q_1, .inl (cA_2, 16, .inl (fun _ => 0))), (q_3, .inl (cA_4, 3100, .inl (fun _ => 0))), (q_5, .inl (cA_6, 96, .inl (fun _ => 0))), (q_7, .inl (cA_8, 8, .inl (fun _ => 0))), (q_9, .inl (cA_10, 24000, .inl (fun _ => 0))), (q_11, .inl (cA_12, 8, .inl (fun _ => 0))), (q_13, .inl (cA_14, 300, .inl (fun _ => 0))), (q_15, .inl (cA_16, 300, .inl (fun _ => 0))), (q_17, .inl (cA_18, 300, .inl (fun _ => 0))), (q_19, .inl (cA_20, 300, .inl (fun _ => 0))), (q_21, .inl (cA_22, 300, .inl (fun _ => 0))), (q_23, .inl (cA_24, 1040, .inl (fun _ => 0)))] H := hP
  have hD : va_D A [(mo, .inr (6, [.int 0, .ref q_1, .ref q_3, .int 0, .int 0, .ref q_5, .ref q_7, .ref q_9, .ref q_11, .int 0, .ref q_13, .ref q_15, .ref q_17, .ref q_19, .ref q_21, .int 0, .int 0, .int 0, .ref q_23, .int 0, .int 0, .int 0, .int 0, .int 0, .int 0, .int 0, .int 0, .int 0, .int 0, .int 0, .int 0, .int 0, .int 0, .int 0, .null, .null, .null, .null, .int 0])), (q_1, .inl (cA_2, 16, .inl (fun _ => 0))), (q_3, .inl (cA_4, 3100, .inl (fun _ => 0))), (q_5, .inl (cA_6, 96, .inl (fun _ => 0))), (q_7, .inl (cA_8, 8, .inl (fun _ => 0))), (q_9, .inl (cA_10, 24000, .inl (fun _ => 0))), (q_11, .inl (cA_12, 8, .inl (fun _ => 0))), (q_13, .inl (cA_14, 300, .inl (fun _ => 0))), (q_15, .inl (cA_16, 300, .inl (fun _ => 0))), (q_17, .inl (cA_18, 300, .inl (fun _ => 0))), (q_19, .inl (cA_20, 300, .inl (fun _ => 0))), (q_21, .inl (cA_22, 300, .inl (fun _ => 0))), (q_23, .inl (cA_24, 1040, .inl (fun _ => 0)))] := hD
  refine lv_aload_n hx hb dX8_init_193 rfl (lv_at hl 0 rfl) ?_
  refine lv_iconst (v := 0) hx hb dX8_init_194 (by decide) ?_
  refine va_put (D := (dC, dI)) (ci := 6) (v := .int 0) (ty := .int) (C := RX8) (T := TX8) (N := 39) hx hb hts iX8 tyX8 tyX8_ok nmX8 hown hK hP hD hS 0 rfl rfl 29 (by decide) (hts (.fieldLink RX8 100 "BatchTransferModel" "expected" "I") (by decide +kernel)) (fun _ h9 => h9) rfl (by decide +kernel) rfl rfl (Nat.le_of_ble_eq_true rfl) dX8_init_195 (fun H locs hP hD hS => ?_)
  have hP : va_P (dC, dI) vwCl [(mo, .inr (6, [.int 0, .ref q_1, .ref q_3, .int 0, .int 0, .ref q_5, .ref q_7, .ref q_9, .ref q_11, .int 0, .ref q_13, .ref q_15, .ref q_17, .ref q_19, .ref q_21, .int 0, .int 0, .int 0, .ref q_23, .int 0, .int 0, .int 0, .int 0, .int 0, .int 0, .int 0, .int 0, .int 0, .int 0, .int 0, .int 0, .int 0, .int 0, .int 0, .null, .null, .null, .null, .int 0])), (q_1, .inl (cA_2, 16, .inl (fun _ => 0))), (q_3, .inl (cA_4, 3100, .inl (fun _ => 0))), (q_5, .inl (cA_6, 96, .inl (fun _ => 0))), (q_7, .inl (cA_8, 8, .inl (fun _ => 0))), (q_9, .inl (cA_10, 24000, .inl (fun _ => 0))), (q_11, .inl (cA_12, 8, .inl (fun _ => 0))), (q_13, .inl (cA_14, 300, .inl (fun _ => 0))), (q_15, .inl (cA_16, 300, .inl (fun _ => 0))), (q_17, .inl (cA_18, 300, .inl (fun _ => 0))), (q_19, .inl (cA_20, 300, .inl (fun _ => 0))), (q_21, .inl (cA_22, 300, .inl (fun _ => 0))), (q_23, .inl (cA_24, 1040, .inl (fun _ => 0)))] H := hP
  have hD : va_D A [(mo, .inr (6, [.int 0, .ref q_1, .ref q_3, .int 0, .int 0, .ref q_5, .ref q_7, .ref q_9, .ref q_11, .int 0, .ref q_13, .ref q_15, .ref q_17, .ref q_19, .ref q_21, .int 0, .int 0, .int 0, .ref q_23, .int 0, .int 0, .int 0, .int 0, .int 0, .int 0, .int 0, .int 0, .int 0, .int 0, .int 0, .int 0, .int 0, .int 0, .int 0, .null, .null, .null, .null, .int 0])), (q_1, .inl (cA_2, 16, .inl (fun _ => 0))), (q_3, .inl (cA_4, 3100, .inl (fun _ => 0))), (q_5, .inl (cA_6, 96, .inl (fun _ => 0))), (q_7, .inl (cA_8, 8, .inl (fun _ => 0))), (q_9, .inl (cA_10, 24000, .inl (fun _ => 0))), (q_11, .inl (cA_12, 8, .inl (fun _ => 0))), (q_13, .inl (cA_14, 300, .inl (fun _ => 0))), (q_15, .inl (cA_16, 300, .inl (fun _ => 0))), (q_17, .inl (cA_18, 300, .inl (fun _ => 0))), (q_19, .inl (cA_20, 300, .inl (fun _ => 0))), (q_21, .inl (cA_22, 300, .inl (fun _ => 0))), (q_23, .inl (cA_24, 1040, .inl (fun _ => 0)))] := hD
  refine lv_aload_n hx hb dX8_init_198 rfl (lv_at hl 0 rfl) ?_
  refine lv_iconst (v := 0) hx hb dX8_init_199 (by decide) ?_
  refine va_put (D := (dC, dI)) (ci := 6) (v := .int 0) (ty := .boolean) (C := RX8) (T := TX8) (N := 39) hx hb hts iX8 tyX8 tyX8_ok nmX8 hown hK hP hD hS 0 rfl rfl 30 (by decide) (hts (.fieldLink RX8 103 "BatchTransferModel" "wantsHead" "Z") (by decide +kernel)) (fun _ h9 => h9) rfl (by decide +kernel) rfl rfl (Nat.le_of_ble_eq_true rfl) dX8_init_200 (fun H locs hP hD hS => ?_)
  have hP : va_P (dC, dI) vwCl [(mo, .inr (6, [.int 0, .ref q_1, .ref q_3, .int 0, .int 0, .ref q_5, .ref q_7, .ref q_9, .ref q_11, .int 0, .ref q_13, .ref q_15, .ref q_17, .ref q_19, .ref q_21, .int 0, .int 0, .int 0, .ref q_23, .int 0, .int 0, .int 0, .int 0, .int 0, .int 0, .int 0, .int 0, .int 0, .int 0, .int 0, .int 0, .int 0, .int 0, .int 0, .null, .null, .null, .null, .int 0])), (q_1, .inl (cA_2, 16, .inl (fun _ => 0))), (q_3, .inl (cA_4, 3100, .inl (fun _ => 0))), (q_5, .inl (cA_6, 96, .inl (fun _ => 0))), (q_7, .inl (cA_8, 8, .inl (fun _ => 0))), (q_9, .inl (cA_10, 24000, .inl (fun _ => 0))), (q_11, .inl (cA_12, 8, .inl (fun _ => 0))), (q_13, .inl (cA_14, 300, .inl (fun _ => 0))), (q_15, .inl (cA_16, 300, .inl (fun _ => 0))), (q_17, .inl (cA_18, 300, .inl (fun _ => 0))), (q_19, .inl (cA_20, 300, .inl (fun _ => 0))), (q_21, .inl (cA_22, 300, .inl (fun _ => 0))), (q_23, .inl (cA_24, 1040, .inl (fun _ => 0)))] H := hP
  have hD : va_D A [(mo, .inr (6, [.int 0, .ref q_1, .ref q_3, .int 0, .int 0, .ref q_5, .ref q_7, .ref q_9, .ref q_11, .int 0, .ref q_13, .ref q_15, .ref q_17, .ref q_19, .ref q_21, .int 0, .int 0, .int 0, .ref q_23, .int 0, .int 0, .int 0, .int 0, .int 0, .int 0, .int 0, .int 0, .int 0, .int 0, .int 0, .int 0, .int 0, .int 0, .int 0, .null, .null, .null, .null, .int 0])), (q_1, .inl (cA_2, 16, .inl (fun _ => 0))), (q_3, .inl (cA_4, 3100, .inl (fun _ => 0))), (q_5, .inl (cA_6, 96, .inl (fun _ => 0))), (q_7, .inl (cA_8, 8, .inl (fun _ => 0))), (q_9, .inl (cA_10, 24000, .inl (fun _ => 0))), (q_11, .inl (cA_12, 8, .inl (fun _ => 0))), (q_13, .inl (cA_14, 300, .inl (fun _ => 0))), (q_15, .inl (cA_16, 300, .inl (fun _ => 0))), (q_17, .inl (cA_18, 300, .inl (fun _ => 0))), (q_19, .inl (cA_20, 300, .inl (fun _ => 0))), (q_21, .inl (cA_22, 300, .inl (fun _ => 0))), (q_23, .inl (cA_24, 1040, .inl (fun _ => 0)))] := hD
  refine lv_aload_n hx hb dX8_init_203 rfl (lv_at hl 0 rfl) ?_
  refine lv_iconst (v := 0) hx hb dX8_init_204 (by decide) ?_
  refine va_put (D := (dC, dI)) (ci := 6) (v := .int 0) (ty := .boolean) (C := RX8) (T := TX8) (N := 39) hx hb hts iX8 tyX8 tyX8_ok nmX8 hown hK hP hD hS 0 rfl rfl 31 (by decide) (hts (.fieldLink RX8 106 "BatchTransferModel" "everRight" "Z") (by decide +kernel)) (fun _ h9 => h9) rfl (by decide +kernel) rfl rfl (Nat.le_of_ble_eq_true rfl) dX8_init_205 (fun H locs hP hD hS => ?_)
  have hP : va_P (dC, dI) vwCl [(mo, .inr (6, [.int 0, .ref q_1, .ref q_3, .int 0, .int 0, .ref q_5, .ref q_7, .ref q_9, .ref q_11, .int 0, .ref q_13, .ref q_15, .ref q_17, .ref q_19, .ref q_21, .int 0, .int 0, .int 0, .ref q_23, .int 0, .int 0, .int 0, .int 0, .int 0, .int 0, .int 0, .int 0, .int 0, .int 0, .int 0, .int 0, .int 0, .int 0, .int 0, .null, .null, .null, .null, .int 0])), (q_1, .inl (cA_2, 16, .inl (fun _ => 0))), (q_3, .inl (cA_4, 3100, .inl (fun _ => 0))), (q_5, .inl (cA_6, 96, .inl (fun _ => 0))), (q_7, .inl (cA_8, 8, .inl (fun _ => 0))), (q_9, .inl (cA_10, 24000, .inl (fun _ => 0))), (q_11, .inl (cA_12, 8, .inl (fun _ => 0))), (q_13, .inl (cA_14, 300, .inl (fun _ => 0))), (q_15, .inl (cA_16, 300, .inl (fun _ => 0))), (q_17, .inl (cA_18, 300, .inl (fun _ => 0))), (q_19, .inl (cA_20, 300, .inl (fun _ => 0))), (q_21, .inl (cA_22, 300, .inl (fun _ => 0))), (q_23, .inl (cA_24, 1040, .inl (fun _ => 0)))] H := hP
  have hD : va_D A [(mo, .inr (6, [.int 0, .ref q_1, .ref q_3, .int 0, .int 0, .ref q_5, .ref q_7, .ref q_9, .ref q_11, .int 0, .ref q_13, .ref q_15, .ref q_17, .ref q_19, .ref q_21, .int 0, .int 0, .int 0, .ref q_23, .int 0, .int 0, .int 0, .int 0, .int 0, .int 0, .int 0, .int 0, .int 0, .int 0, .int 0, .int 0, .int 0, .int 0, .int 0, .null, .null, .null, .null, .int 0])), (q_1, .inl (cA_2, 16, .inl (fun _ => 0))), (q_3, .inl (cA_4, 3100, .inl (fun _ => 0))), (q_5, .inl (cA_6, 96, .inl (fun _ => 0))), (q_7, .inl (cA_8, 8, .inl (fun _ => 0))), (q_9, .inl (cA_10, 24000, .inl (fun _ => 0))), (q_11, .inl (cA_12, 8, .inl (fun _ => 0))), (q_13, .inl (cA_14, 300, .inl (fun _ => 0))), (q_15, .inl (cA_16, 300, .inl (fun _ => 0))), (q_17, .inl (cA_18, 300, .inl (fun _ => 0))), (q_19, .inl (cA_20, 300, .inl (fun _ => 0))), (q_21, .inl (cA_22, 300, .inl (fun _ => 0))), (q_23, .inl (cA_24, 1040, .inl (fun _ => 0)))] := hD
  refine lv_aload_n hx hb dX8_init_208 rfl (lv_at hl 0 rfl) ?_
  refine lv_iconst (v := 0) hx hb dX8_init_209 (by decide) ?_
  refine va_put (D := (dC, dI)) (ci := 6) (v := .int 0) (ty := .boolean) (C := RX8) (T := TX8) (N := 39) hx hb hts iX8 tyX8 tyX8_ok nmX8 hown hK hP hD hS 0 rfl rfl 32 (by decide) (hts (.fieldLink RX8 109 "BatchTransferModel" "rightOfFile" "Z") (by decide +kernel)) (fun _ h9 => h9) rfl (by decide +kernel) rfl rfl (Nat.le_of_ble_eq_true rfl) dX8_init_210 (fun H locs hP hD hS => ?_)
  have hP : va_P (dC, dI) vwCl [(mo, .inr (6, [.int 0, .ref q_1, .ref q_3, .int 0, .int 0, .ref q_5, .ref q_7, .ref q_9, .ref q_11, .int 0, .ref q_13, .ref q_15, .ref q_17, .ref q_19, .ref q_21, .int 0, .int 0, .int 0, .ref q_23, .int 0, .int 0, .int 0, .int 0, .int 0, .int 0, .int 0, .int 0, .int 0, .int 0, .int 0, .int 0, .int 0, .int 0, .int 0, .null, .null, .null, .null, .int 0])), (q_1, .inl (cA_2, 16, .inl (fun _ => 0))), (q_3, .inl (cA_4, 3100, .inl (fun _ => 0))), (q_5, .inl (cA_6, 96, .inl (fun _ => 0))), (q_7, .inl (cA_8, 8, .inl (fun _ => 0))), (q_9, .inl (cA_10, 24000, .inl (fun _ => 0))), (q_11, .inl (cA_12, 8, .inl (fun _ => 0))), (q_13, .inl (cA_14, 300, .inl (fun _ => 0))), (q_15, .inl (cA_16, 300, .inl (fun _ => 0))), (q_17, .inl (cA_18, 300, .inl (fun _ => 0))), (q_19, .inl (cA_20, 300, .inl (fun _ => 0))), (q_21, .inl (cA_22, 300, .inl (fun _ => 0))), (q_23, .inl (cA_24, 1040, .inl (fun _ => 0)))] H := hP
  have hD : va_D A [(mo, .inr (6, [.int 0, .ref q_1, .ref q_3, .int 0, .int 0, .ref q_5, .ref q_7, .ref q_9, .ref q_11, .int 0, .ref q_13, .ref q_15, .ref q_17, .ref q_19, .ref q_21, .int 0, .int 0, .int 0, .ref q_23, .int 0, .int 0, .int 0, .int 0, .int 0, .int 0, .int 0, .int 0, .int 0, .int 0, .int 0, .int 0, .int 0, .int 0, .int 0, .null, .null, .null, .null, .int 0])), (q_1, .inl (cA_2, 16, .inl (fun _ => 0))), (q_3, .inl (cA_4, 3100, .inl (fun _ => 0))), (q_5, .inl (cA_6, 96, .inl (fun _ => 0))), (q_7, .inl (cA_8, 8, .inl (fun _ => 0))), (q_9, .inl (cA_10, 24000, .inl (fun _ => 0))), (q_11, .inl (cA_12, 8, .inl (fun _ => 0))), (q_13, .inl (cA_14, 300, .inl (fun _ => 0))), (q_15, .inl (cA_16, 300, .inl (fun _ => 0))), (q_17, .inl (cA_18, 300, .inl (fun _ => 0))), (q_19, .inl (cA_20, 300, .inl (fun _ => 0))), (q_21, .inl (cA_22, 300, .inl (fun _ => 0))), (q_23, .inl (cA_24, 1040, .inl (fun _ => 0)))] := hD
  refine lv_aload_n hx hb dX8_init_213 rfl (lv_at hl 0 rfl) ?_
  refine lv_iconst (v := 0) hx hb dX8_init_214 (by decide) ?_
  refine va_put (D := (dC, dI)) (ci := 6) (v := .int 0) (ty := .int) (C := RX8) (T := TX8) (N := 39) hx hb hts iX8 tyX8 tyX8_ok nmX8 hown hK hP hD hS 0 rfl rfl 33 (by decide) (hts (.fieldLink RX8 112 "BatchTransferModel" "gotFiles" "I") (by decide +kernel)) (fun _ h9 => h9) rfl (by decide +kernel) rfl rfl (Nat.le_of_ble_eq_true rfl) dX8_init_215 (fun H locs hP hD hS => ?_)
  have hP : va_P (dC, dI) vwCl [(mo, .inr (6, [.int 0, .ref q_1, .ref q_3, .int 0, .int 0, .ref q_5, .ref q_7, .ref q_9, .ref q_11, .int 0, .ref q_13, .ref q_15, .ref q_17, .ref q_19, .ref q_21, .int 0, .int 0, .int 0, .ref q_23, .int 0, .int 0, .int 0, .int 0, .int 0, .int 0, .int 0, .int 0, .int 0, .int 0, .int 0, .int 0, .int 0, .int 0, .int 0, .null, .null, .null, .null, .int 0])), (q_1, .inl (cA_2, 16, .inl (fun _ => 0))), (q_3, .inl (cA_4, 3100, .inl (fun _ => 0))), (q_5, .inl (cA_6, 96, .inl (fun _ => 0))), (q_7, .inl (cA_8, 8, .inl (fun _ => 0))), (q_9, .inl (cA_10, 24000, .inl (fun _ => 0))), (q_11, .inl (cA_12, 8, .inl (fun _ => 0))), (q_13, .inl (cA_14, 300, .inl (fun _ => 0))), (q_15, .inl (cA_16, 300, .inl (fun _ => 0))), (q_17, .inl (cA_18, 300, .inl (fun _ => 0))), (q_19, .inl (cA_20, 300, .inl (fun _ => 0))), (q_21, .inl (cA_22, 300, .inl (fun _ => 0))), (q_23, .inl (cA_24, 1040, .inl (fun _ => 0)))] H := hP
  have hD : va_D A [(mo, .inr (6, [.int 0, .ref q_1, .ref q_3, .int 0, .int 0, .ref q_5, .ref q_7, .ref q_9, .ref q_11, .int 0, .ref q_13, .ref q_15, .ref q_17, .ref q_19, .ref q_21, .int 0, .int 0, .int 0, .ref q_23, .int 0, .int 0, .int 0, .int 0, .int 0, .int 0, .int 0, .int 0, .int 0, .int 0, .int 0, .int 0, .int 0, .int 0, .int 0, .null, .null, .null, .null, .int 0])), (q_1, .inl (cA_2, 16, .inl (fun _ => 0))), (q_3, .inl (cA_4, 3100, .inl (fun _ => 0))), (q_5, .inl (cA_6, 96, .inl (fun _ => 0))), (q_7, .inl (cA_8, 8, .inl (fun _ => 0))), (q_9, .inl (cA_10, 24000, .inl (fun _ => 0))), (q_11, .inl (cA_12, 8, .inl (fun _ => 0))), (q_13, .inl (cA_14, 300, .inl (fun _ => 0))), (q_15, .inl (cA_16, 300, .inl (fun _ => 0))), (q_17, .inl (cA_18, 300, .inl (fun _ => 0))), (q_19, .inl (cA_20, 300, .inl (fun _ => 0))), (q_21, .inl (cA_22, 300, .inl (fun _ => 0))), (q_23, .inl (cA_24, 1040, .inl (fun _ => 0)))] := hD
  refine lv_aload_n hx hb dX8_init_218 rfl (lv_at hl 0 rfl) ?_
  refine lv_bipush (v := 96) hx hb dX8_init_219 (by decide) ?_
  refine va_newa (atype := .byte) (ty := .byte) hx hb (hts (.arrayClass .byte) (by decide +kernel)) rfl hK hP hD hS hA (n := 96) (N' := 96) (a0 := (96, .inl (fun _ => 0))) (nz_byte 96) (by decide) (by decide +kernel) (nb_byte 96 (by omega)) (show 12 + 1 ≤ 16 by omega) (show 29768 + 96 ≤ 57880 by omega) dX8_init_221 (fun q_25 cA_26 H hK hP hD hS => ?_)
  refine W.widen (k := 13) (n := 29864) (by omega) (by omega) ?_
  have hK : va_K (dC, dI) vwCl [(cA_2, .int), (cA_4, .byte), (cA_6, .byte), (cA_8, .int), (cA_10, .byte), (cA_12, .int), (cA_14, .int), (cA_16, .int), (cA_18, .int), (cA_20, .int), (cA_22, .int), (cA_24, .byte), (cA_26, .byte)] s := hK
  have hP : va_P (dC, dI) vwCl [(mo, .inr (6, [.int 0, .ref q_1, .ref q_3, .int 0, .int 0, .ref q_5, .ref q_7, .ref q_9, .ref q_11, .int 0, .ref q_13, .ref q_15, .ref q_17, .ref q_19, .ref q_21, .int 0, .int 0, .int 0, .ref q_23, .int 0, .int 0, .int 0, .int 0, .int 0, .int 0, .int 0, .int 0, .int 0, .int 0, .int 0, .int 0, .int 0, .int 0, .int 0, .null, .null, .null, .null, .int 0])), (q_1, .inl (cA_2, 16, .inl (fun _ => 0))), (q_3, .inl (cA_4, 3100, .inl (fun _ => 0))), (q_5, .inl (cA_6, 96, .inl (fun _ => 0))), (q_7, .inl (cA_8, 8, .inl (fun _ => 0))), (q_9, .inl (cA_10, 24000, .inl (fun _ => 0))), (q_11, .inl (cA_12, 8, .inl (fun _ => 0))), (q_13, .inl (cA_14, 300, .inl (fun _ => 0))), (q_15, .inl (cA_16, 300, .inl (fun _ => 0))), (q_17, .inl (cA_18, 300, .inl (fun _ => 0))), (q_19, .inl (cA_20, 300, .inl (fun _ => 0))), (q_21, .inl (cA_22, 300, .inl (fun _ => 0))), (q_23, .inl (cA_24, 1040, .inl (fun _ => 0))), (q_25, .inl (cA_26, 96, .inl (fun _ => 0)))] H := hP
  have hD : va_D A [(mo, .inr (6, [.int 0, .ref q_1, .ref q_3, .int 0, .int 0, .ref q_5, .ref q_7, .ref q_9, .ref q_11, .int 0, .ref q_13, .ref q_15, .ref q_17, .ref q_19, .ref q_21, .int 0, .int 0, .int 0, .ref q_23, .int 0, .int 0, .int 0, .int 0, .int 0, .int 0, .int 0, .int 0, .int 0, .int 0, .int 0, .int 0, .int 0, .int 0, .int 0, .null, .null, .null, .null, .int 0])), (q_1, .inl (cA_2, 16, .inl (fun _ => 0))), (q_3, .inl (cA_4, 3100, .inl (fun _ => 0))), (q_5, .inl (cA_6, 96, .inl (fun _ => 0))), (q_7, .inl (cA_8, 8, .inl (fun _ => 0))), (q_9, .inl (cA_10, 24000, .inl (fun _ => 0))), (q_11, .inl (cA_12, 8, .inl (fun _ => 0))), (q_13, .inl (cA_14, 300, .inl (fun _ => 0))), (q_15, .inl (cA_16, 300, .inl (fun _ => 0))), (q_17, .inl (cA_18, 300, .inl (fun _ => 0))), (q_19, .inl (cA_20, 300, .inl (fun _ => 0))), (q_21, .inl (cA_22, 300, .inl (fun _ => 0))), (q_23, .inl (cA_24, 1040, .inl (fun _ => 0))), (q_25, .inl (cA_26, 96, .inl (fun _ => 0)))] := hD
  refine va_putF (D := (dC, dI)) (ci := 6) (v := .ref q_25) (ty := .array .byte) (C := RX8) (T := TX8) (N := 39) hx hb hts iX8 tyX8 tyX8_ok nmX8 hown hK hP hD hS 0 rfl rfl 34 (by decide) (hts (.fieldLink RX8 115 "BatchTransferModel" "gotName" "[B") (by decide +kernel)) (fun _ h9 => h9) rfl hin rfl (by decide +kernel) rfl rfl (Nat.le_of_ble_eq_true rfl) dX8_init_223 (fun H locs hP hD hS => ?_)
  have hP : va_P (dC, dI) vwCl [(mo, .inr (6, [.int 0, .ref q_1, .ref q_3, .int 0, .int 0, .ref q_5, .ref q_7, .ref q_9, .ref q_11, .int 0, .ref q_13, .ref q_15, .ref q_17, .ref q_19, .ref q_21, .int 0, .int 0, .int 0, .ref q_23, .int 0, .int 0, .int 0, .int 0, .int 0, .int 0, .int 0, .int 0, .int 0, .int 0, .int 0, .int 0, .int 0, .int 0, .int 0, .ref q_25, .null, .null, .null, .int 0])), (q_1, .inl (cA_2, 16, .inl (fun _ => 0))), (q_3, .inl (cA_4, 3100, .inl (fun _ => 0))), (q_5, .inl (cA_6, 96, .inl (fun _ => 0))), (q_7, .inl (cA_8, 8, .inl (fun _ => 0))), (q_9, .inl (cA_10, 24000, .inl (fun _ => 0))), (q_11, .inl (cA_12, 8, .inl (fun _ => 0))), (q_13, .inl (cA_14, 300, .inl (fun _ => 0))), (q_15, .inl (cA_16, 300, .inl (fun _ => 0))), (q_17, .inl (cA_18, 300, .inl (fun _ => 0))), (q_19, .inl (cA_20, 300, .inl (fun _ => 0))), (q_21, .inl (cA_22, 300, .inl (fun _ => 0))), (q_23, .inl (cA_24, 1040, .inl (fun _ => 0))), (q_25, .inl (cA_26, 96, .inl (fun _ => 0)))] H := hP
  have hD : va_D A [(mo, .inr (6, [.int 0, .ref q_1, .ref q_3, .int 0, .int 0, .ref q_5, .ref q_7, .ref q_9, .ref q_11, .int 0, .ref q_13, .ref q_15, .ref q_17, .ref q_19, .ref q_21, .int 0, .int 0, .int 0, .ref q_23, .int 0, .int 0, .int 0, .int 0, .int 0, .int 0, .int 0, .int 0, .int 0, .int 0, .int 0, .int 0, .int 0, .int 0, .int 0, .ref q_25, .null, .null, .null, .int 0])), (q_1, .inl (cA_2, 16, .inl (fun _ => 0))), (q_3, .inl (cA_4, 3100, .inl (fun _ => 0))), (q_5, .inl (cA_6, 96, .inl (fun _ => 0))), (q_7, .inl (cA_8, 8, .inl (fun _ => 0))), (q_9, .inl (cA_10, 24000, .inl (fun _ => 0))), (q_11, .inl (cA_12, 8, .inl (fun _ => 0))), (q_13, .inl (cA_14, 300, .inl (fun _ => 0))), (q_15, .inl (cA_16, 300, .inl (fun _ => 0))), (q_17, .inl (cA_18, 300, .inl (fun _ => 0))), (q_19, .inl (cA_20, 300, .inl (fun _ => 0))), (q_21, .inl (cA_22, 300, .inl (fun _ => 0))), (q_23, .inl (cA_24, 1040, .inl (fun _ => 0))), (q_25, .inl (cA_26, 96, .inl (fun _ => 0)))] := hD
  refine lv_aload_n hx hb dX8_init_226 rfl (lv_at hl 0 rfl) ?_
  refine lv_bipush (v := 8) hx hb dX8_init_227 (by decide) ?_
  refine va_newa (atype := .int) (ty := .int) hx hb (hts (.arrayClass .int) (by decide +kernel)) rfl hK hP hD hS hA (n := 8) (N' := 8) (a0 := (8, .inl (fun _ => 0))) (nz_int 8) (by decide) (by decide +kernel) (nb_int 8 (by omega)) (show 13 + 1 ≤ 16 by omega) (show 29864 + 8 ≤ 57880 by omega) dX8_init_229 (fun q_27 cA_28 H hK hP hD hS => ?_)
  refine W.widen (k := 14) (n := 29872) (by omega) (by omega) ?_
  have hK : va_K (dC, dI) vwCl [(cA_2, .int), (cA_4, .byte), (cA_6, .byte), (cA_8, .int), (cA_10, .byte), (cA_12, .int), (cA_14, .int), (cA_16, .int), (cA_18, .int), (cA_20, .int), (cA_22, .int), (cA_24, .byte), (cA_26, .byte), (cA_28, .int)] s := hK
  have hP : va_P (dC, dI) vwCl [(mo, .inr (6, [.int 0, .ref q_1, .ref q_3, .int 0, .int 0, .ref q_5, .ref q_7, .ref q_9, .ref q_11, .int 0, .ref q_13, .ref q_15, .ref q_17, .ref q_19, .ref q_21, .int 0, .int 0, .int 0, .ref q_23, .int 0, .int 0, .int 0, .int 0, .int 0, .int 0, .int 0, .int 0, .int 0, .int 0, .int 0, .int 0, .int 0, .int 0, .int 0, .ref q_25, .null, .null, .null, .int 0])), (q_1, .inl (cA_2, 16, .inl (fun _ => 0))), (q_3, .inl (cA_4, 3100, .inl (fun _ => 0))), (q_5, .inl (cA_6, 96, .inl (fun _ => 0))), (q_7, .inl (cA_8, 8, .inl (fun _ => 0))), (q_9, .inl (cA_10, 24000, .inl (fun _ => 0))), (q_11, .inl (cA_12, 8, .inl (fun _ => 0))), (q_13, .inl (cA_14, 300, .inl (fun _ => 0))), (q_15, .inl (cA_16, 300, .inl (fun _ => 0))), (q_17, .inl (cA_18, 300, .inl (fun _ => 0))), (q_19, .inl (cA_20, 300, .inl (fun _ => 0))), (q_21, .inl (cA_22, 300, .inl (fun _ => 0))), (q_23, .inl (cA_24, 1040, .inl (fun _ => 0))), (q_25, .inl (cA_26, 96, .inl (fun _ => 0))), (q_27, .inl (cA_28, 8, .inl (fun _ => 0)))] H := hP
  have hD : va_D A [(mo, .inr (6, [.int 0, .ref q_1, .ref q_3, .int 0, .int 0, .ref q_5, .ref q_7, .ref q_9, .ref q_11, .int 0, .ref q_13, .ref q_15, .ref q_17, .ref q_19, .ref q_21, .int 0, .int 0, .int 0, .ref q_23, .int 0, .int 0, .int 0, .int 0, .int 0, .int 0, .int 0, .int 0, .int 0, .int 0, .int 0, .int 0, .int 0, .int 0, .int 0, .ref q_25, .null, .null, .null, .int 0])), (q_1, .inl (cA_2, 16, .inl (fun _ => 0))), (q_3, .inl (cA_4, 3100, .inl (fun _ => 0))), (q_5, .inl (cA_6, 96, .inl (fun _ => 0))), (q_7, .inl (cA_8, 8, .inl (fun _ => 0))), (q_9, .inl (cA_10, 24000, .inl (fun _ => 0))), (q_11, .inl (cA_12, 8, .inl (fun _ => 0))), (q_13, .inl (cA_14, 300, .inl (fun _ => 0))), (q_15, .inl (cA_16, 300, .inl (fun _ => 0))), (q_17, .inl (cA_18, 300, .inl (fun _ => 0))), (q_19, .inl (cA_20, 300, .inl (fun _ => 0))), (q_21, .inl (cA_22, 300, .inl (fun _ => 0))), (q_23, .inl (cA_24, 1040, .inl (fun _ => 0))), (q_25, .inl (cA_26, 96, .inl (fun _ => 0))), (q_27, .inl (cA_28, 8, .inl (fun _ => 0)))] := hD
  refine va_putF (D := (dC, dI)) (ci := 6) (v := .ref q_27) (ty := .array .int) (C := RX8) (T := TX8) (N := 39) hx hb hts iX8 tyX8 tyX8_ok nmX8 hown hK hP hD hS 0 rfl rfl 35 (by decide) (hts (.fieldLink RX8 118 "BatchTransferModel" "gotNameLen" "[I") (by decide +kernel)) (fun _ h9 => h9) rfl hin rfl (by decide +kernel) rfl rfl (Nat.le_of_ble_eq_true rfl) dX8_init_231 (fun H locs hP hD hS => ?_)
  have hP : va_P (dC, dI) vwCl [(mo, .inr (6, [.int 0, .ref q_1, .ref q_3, .int 0, .int 0, .ref q_5, .ref q_7, .ref q_9, .ref q_11, .int 0, .ref q_13, .ref q_15, .ref q_17, .ref q_19, .ref q_21, .int 0, .int 0, .int 0, .ref q_23, .int 0, .int 0, .int 0, .int 0, .int 0, .int 0, .int 0, .int 0, .int 0, .int 0, .int 0, .int 0, .int 0, .int 0, .int 0, .ref q_25, .ref q_27, .null, .null, .int 0])), (q_1, .inl (cA_2, 16, .inl (fun _ => 0))), (q_3, .inl (cA_4, 3100, .inl (fun _ => 0))), (q_5, .inl (cA_6, 96, .inl (fun _ => 0))), (q_7, .inl (cA_8, 8, .inl (fun _ => 0))), (q_9, .inl (cA_10, 24000, .inl (fun _ => 0))), (q_11, .inl (cA_12, 8, .inl (fun _ => 0))), (q_13, .inl (cA_14, 300, .inl (fun _ => 0))), (q_15, .inl (cA_16, 300, .inl (fun _ => 0))), (q_17, .inl (cA_18, 300, .inl (fun _ => 0))), (q_19, .inl (cA_20, 300, .inl (fun _ => 0))), (q_21, .inl (cA_22, 300, .inl (fun _ => 0))), (q_23, .inl (cA_24, 1040, .inl (fun _ => 0))), (q_25, .inl (cA_26, 96, .inl (fun _ => 0))), (q_27, .inl (cA_28, 8, .inl (fun _ => 0)))] H := hP
  have hD : va_D A [(mo, .inr (6, [.int 0, .ref q_1, .ref q_3, .int 0, .int 0, .ref q_5, .ref q_7, .ref q_9, .ref q_11, .int 0, .ref q_13, .ref q_15, .ref q_17, .ref q_19, .ref q_21, .int 0, .int 0, .int 0, .ref q_23, .int 0, .int 0, .int 0, .int 0, .int 0, .int 0, .int 0, .int 0, .int 0, .int 0, .int 0, .int 0, .int 0, .int 0, .int 0, .ref q_25, .ref q_27, .null, .null, .int 0])), (q_1, .inl (cA_2, 16, .inl (fun _ => 0))), (q_3, .inl (cA_4, 3100, .inl (fun _ => 0))), (q_5, .inl (cA_6, 96, .inl (fun _ => 0))), (q_7, .inl (cA_8, 8, .inl (fun _ => 0))), (q_9, .inl (cA_10, 24000, .inl (fun _ => 0))), (q_11, .inl (cA_12, 8, .inl (fun _ => 0))), (q_13, .inl (cA_14, 300, .inl (fun _ => 0))), (q_15, .inl (cA_16, 300, .inl (fun _ => 0))), (q_17, .inl (cA_18, 300, .inl (fun _ => 0))), (q_19, .inl (cA_20, 300, .inl (fun _ => 0))), (q_21, .inl (cA_22, 300, .inl (fun _ => 0))), (q_23, .inl (cA_24, 1040, .inl (fun _ => 0))), (q_25, .inl (cA_26, 96, .inl (fun _ => 0))), (q_27, .inl (cA_28, 8, .inl (fun _ => 0)))] := hD
  refine lv_aload_n hx hb dX8_init_234 rfl (lv_at hl 0 rfl) ?_
  refine lv_sipush (v := 28000) hx hb dX8_init_235 (by decide) ?_
  refine va_newa (atype := .byte) (ty := .byte) hx hb (hts (.arrayClass .byte) (by decide +kernel)) rfl hK hP hD hS hA (n := 28000) (N' := 28000) (a0 := (28000, .inl (fun _ => 0))) (nz_byte 28000) (by decide) (by decide +kernel) (nb_byte 28000 (by omega)) (show 14 + 1 ≤ 16 by omega) (show 29872 + 28000 ≤ 57880 by omega) dX8_init_238 (fun q_29 cA_30 H hK hP hD hS => ?_)
  refine W.widen (k := 15) (n := 57872) (by omega) (by omega) ?_
  have hK : va_K (dC, dI) vwCl [(cA_2, .int), (cA_4, .byte), (cA_6, .byte), (cA_8, .int), (cA_10, .byte), (cA_12, .int), (cA_14, .int), (cA_16, .int), (cA_18, .int), (cA_20, .int), (cA_22, .int), (cA_24, .byte), (cA_26, .byte), (cA_28, .int), (cA_30, .byte)] s := hK
  have hP : va_P (dC, dI) vwCl [(mo, .inr (6, [.int 0, .ref q_1, .ref q_3, .int 0, .int 0, .ref q_5, .ref q_7, .ref q_9, .ref q_11, .int 0, .ref q_13, .ref q_15, .ref q_17, .ref q_19, .ref q_21, .int 0, .int 0, .int 0, .ref q_23, .int 0, .int 0, .int 0, .int 0, .int 0, .int 0, .int 0, .int 0, .int 0, .int 0, .int 0, .int 0, .int 0, .int 0, .int 0, .ref q_25, .ref q_27, .null, .null, .int 0])), (q_1, .inl (cA_2, 16, .inl (fun _ => 0))), (q_3, .inl (cA_4, 3100, .inl (fun _ => 0))), (q_5, .inl (cA_6, 96, .inl (fun _ => 0))), (q_7, .inl (cA_8, 8, .inl (fun _ => 0))), (q_9, .inl (cA_10, 24000, .inl (fun _ => 0))), (q_11, .inl (cA_12, 8, .inl (fun _ => 0))), (q_13, .inl (cA_14, 300, .inl (fun _ => 0))), (q_15, .inl (cA_16, 300, .inl (fun _ => 0))), (q_17, .inl (cA_18, 300, .inl (fun _ => 0))), (q_19, .inl (cA_20, 300, .inl (fun _ => 0))), (q_21, .inl (cA_22, 300, .inl (fun _ => 0))), (q_23, .inl (cA_24, 1040, .inl (fun _ => 0))), (q_25, .inl (cA_26, 96, .inl (fun _ => 0))), (q_27, .inl (cA_28, 8, .inl (fun _ => 0))), (q_29, .inl (cA_30, 28000, .inl (fun _ => 0)))] H := hP
  have hD : va_D A [(mo, .inr (6, [.int 0, .ref q_1, .ref q_3, .int 0, .int 0, .ref q_5, .ref q_7, .ref q_9, .ref q_11, .int 0, .ref q_13, .ref q_15, .ref q_17, .ref q_19, .ref q_21, .int 0, .int 0, .int 0, .ref q_23, .int 0, .int 0, .int 0, .int 0, .int 0, .int 0, .int 0, .int 0, .int 0, .int 0, .int 0, .int 0, .int 0, .int 0, .int 0, .ref q_25, .ref q_27, .null, .null, .int 0])), (q_1, .inl (cA_2, 16, .inl (fun _ => 0))), (q_3, .inl (cA_4, 3100, .inl (fun _ => 0))), (q_5, .inl (cA_6, 96, .inl (fun _ => 0))), (q_7, .inl (cA_8, 8, .inl (fun _ => 0))), (q_9, .inl (cA_10, 24000, .inl (fun _ => 0))), (q_11, .inl (cA_12, 8, .inl (fun _ => 0))), (q_13, .inl (cA_14, 300, .inl (fun _ => 0))), (q_15, .inl (cA_16, 300, .inl (fun _ => 0))), (q_17, .inl (cA_18, 300, .inl (fun _ => 0))), (q_19, .inl (cA_20, 300, .inl (fun _ => 0))), (q_21, .inl (cA_22, 300, .inl (fun _ => 0))), (q_23, .inl (cA_24, 1040, .inl (fun _ => 0))), (q_25, .inl (cA_26, 96, .inl (fun _ => 0))), (q_27, .inl (cA_28, 8, .inl (fun _ => 0))), (q_29, .inl (cA_30, 28000, .inl (fun _ => 0)))] := hD
  refine va_putF (D := (dC, dI)) (ci := 6) (v := .ref q_29) (ty := .array .byte) (C := RX8) (T := TX8) (N := 39) hx hb hts iX8 tyX8 tyX8_ok nmX8 hown hK hP hD hS 0 rfl rfl 36 (by decide) (hts (.fieldLink RX8 121 "BatchTransferModel" "got" "[B") (by decide +kernel)) (fun _ h9 => h9) rfl hin rfl (by decide +kernel) rfl rfl (Nat.le_of_ble_eq_true rfl) dX8_init_240 (fun H locs hP hD hS => ?_)
  have hP : va_P (dC, dI) vwCl [(mo, .inr (6, [.int 0, .ref q_1, .ref q_3, .int 0, .int 0, .ref q_5, .ref q_7, .ref q_9, .ref q_11, .int 0, .ref q_13, .ref q_15, .ref q_17, .ref q_19, .ref q_21, .int 0, .int 0, .int 0, .ref q_23, .int 0, .int 0, .int 0, .int 0, .int 0, .int 0, .int 0, .int 0, .int 0, .int 0, .int 0, .int 0, .int 0, .int 0, .int 0, .ref q_25, .ref q_27, .ref q_29, .null, .int 0])), (q_1, .inl (cA_2, 16, .inl (fun _ => 0))), (q_3, .inl (cA_4, 3100, .inl (fun _ => 0))), (q_5, .inl (cA_6, 96, .inl (fun _ => 0))), (q_7, .inl (cA_8, 8, .inl (fun _ => 0))), (q_9, .inl (cA_10, 24000, .inl (fun _ => 0))), (q_11, .inl (cA_12, 8, .inl (fun _ => 0))), (q_13, .inl (cA_14, 300, .inl (fun _ => 0))), (q_15, .inl (cA_16, 300, .inl (fun _ => 0))), (q_17, .inl (cA_18, 300, .inl (fun _ => 0))), (q_19, .inl (cA_20, 300, .inl (fun _ => 0))), (q_21, .inl (cA_22, 300, .inl (fun _ => 0))), (q_23, .inl (cA_24, 1040, .inl (fun _ => 0))), (q_25, .inl (cA_26, 96, .inl (fun _ => 0))), (q_27, .inl (cA_28, 8, .inl (fun _ => 0))), (q_29, .inl (cA_30, 28000, .inl (fun _ => 0)))] H := hP
  have hD : va_D A [(mo, .inr (6, [.int 0, .ref q_1, .ref q_3, .int 0, .int 0, .ref q_5, .ref q_7, .ref q_9, .ref q_11, .int 0, .ref q_13, .ref q_15, .ref q_17, .ref q_19, .ref q_21, .int 0, .int 0, .int 0, .ref q_23, .int 0, .int 0, .int 0, .int 0, .int 0, .int 0, .int 0, .int 0, .int 0, .int 0, .int 0, .int 0, .int 0, .int 0, .int 0, .ref q_25, .ref q_27, .ref q_29, .null, .int 0])), (q_1, .inl (cA_2, 16, .inl (fun _ => 0))), (q_3, .inl (cA_4, 3100, .inl (fun _ => 0))), (q_5, .inl (cA_6, 96, .inl (fun _ => 0))), (q_7, .inl (cA_8, 8, .inl (fun _ => 0))), (q_9, .inl (cA_10, 24000, .inl (fun _ => 0))), (q_11, .inl (cA_12, 8, .inl (fun _ => 0))), (q_13, .inl (cA_14, 300, .inl (fun _ => 0))), (q_15, .inl (cA_16, 300, .inl (fun _ => 0))), (q_17, .inl (cA_18, 300, .inl (fun _ => 0))), (q_19, .inl (cA_20, 300, .inl (fun _ => 0))), (q_21, .inl (cA_22, 300, .inl (fun _ => 0))), (q_23, .inl (cA_24, 1040, .inl (fun _ => 0))), (q_25, .inl (cA_26, 96, .inl (fun _ => 0))), (q_27, .inl (cA_28, 8, .inl (fun _ => 0))), (q_29, .inl (cA_30, 28000, .inl (fun _ => 0)))] := hD
  refine lv_aload_n hx hb dX8_init_243 rfl (lv_at hl 0 rfl) ?_
  refine lv_bipush (v := 8) hx hb dX8_init_244 (by decide) ?_
  refine va_newa (atype := .int) (ty := .int) hx hb (hts (.arrayClass .int) (by decide +kernel)) rfl hK hP hD hS hA (n := 8) (N' := 8) (a0 := (8, .inl (fun _ => 0))) (nz_int 8) (by decide) (by decide +kernel) (nb_int 8 (by omega)) (show 15 + 1 ≤ 16 by omega) (show 57872 + 8 ≤ 57880 by omega) dX8_init_246 (fun q_31 cA_32 H hK hP hD hS => ?_)
  refine W.widen (k := 16) (n := 57880) (by omega) (by omega) ?_
  have hK : va_K (dC, dI) vwCl [(cA_2, .int), (cA_4, .byte), (cA_6, .byte), (cA_8, .int), (cA_10, .byte), (cA_12, .int), (cA_14, .int), (cA_16, .int), (cA_18, .int), (cA_20, .int), (cA_22, .int), (cA_24, .byte), (cA_26, .byte), (cA_28, .int), (cA_30, .byte), (cA_32, .int)] s := hK
  have hP : va_P (dC, dI) vwCl [(mo, .inr (6, [.int 0, .ref q_1, .ref q_3, .int 0, .int 0, .ref q_5, .ref q_7, .ref q_9, .ref q_11, .int 0, .ref q_13, .ref q_15, .ref q_17, .ref q_19, .ref q_21, .int 0, .int 0, .int 0, .ref q_23, .int 0, .int 0, .int 0, .int 0, .int 0, .int 0, .int 0, .int 0, .int 0, .int 0, .int 0, .int 0, .int 0, .int 0, .int 0, .ref q_25, .ref q_27, .ref q_29, .null, .int 0])), (q_1, .inl (cA_2, 16, .inl (fun _ => 0))), (q_3, .inl (cA_4, 3100, .inl (fun _ => 0))), (q_5, .inl (cA_6, 96, .inl (fun _ => 0))), (q_7, .inl (cA_8, 8, .inl (fun _ => 0))), (q_9, .inl (cA_10, 24000, .inl (fun _ => 0))), (q_11, .inl (cA_12, 8, .inl (fun _ => 0))), (q_13, .inl (cA_14, 300, .inl (fun _ => 0))), (q_15, .inl (cA_16, 300, .inl (fun _ => 0))), (q_17, .inl (cA_18, 300, .inl (fun _ => 0))), (q_19, .inl (cA_20, 300, .inl (fun _ => 0))), (q_21, .inl (cA_22, 300, .inl (fun _ => 0))), (q_23, .inl (cA_24, 1040, .inl (fun _ => 0))), (q_25, .inl (cA_26, 96, .inl (fun _ => 0))), (q_27, .inl (cA_28, 8, .inl (fun _ => 0))), (q_29, .inl (cA_30, 28000, .inl (fun _ => 0))), (q_31, .inl (cA_32, 8, .inl (fun _ => 0)))] H := hP
  have hD : va_D A [(mo, .inr (6, [.int 0, .ref q_1, .ref q_3, .int 0, .int 0, .ref q_5, .ref q_7, .ref q_9, .ref q_11, .int 0, .ref q_13, .ref q_15, .ref q_17, .ref q_19, .ref q_21, .int 0, .int 0, .int 0, .ref q_23, .int 0, .int 0, .int 0, .int 0, .int 0, .int 0, .int 0, .int 0, .int 0, .int 0, .int 0, .int 0, .int 0, .int 0, .int 0, .ref q_25, .ref q_27, .ref q_29, .null, .int 0])), (q_1, .inl (cA_2, 16, .inl (fun _ => 0))), (q_3, .inl (cA_4, 3100, .inl (fun _ => 0))), (q_5, .inl (cA_6, 96, .inl (fun _ => 0))), (q_7, .inl (cA_8, 8, .inl (fun _ => 0))), (q_9, .inl (cA_10, 24000, .inl (fun _ => 0))), (q_11, .inl (cA_12, 8, .inl (fun _ => 0))), (q_13, .inl (cA_14, 300, .inl (fun _ => 0))), (q_15, .inl (cA_16, 300, .inl (fun _ => 0))), (q_17, .inl (cA_18, 300, .inl (fun _ => 0))), (q_19, .inl (cA_20, 300, .inl (fun _ => 0))), (q_21, .inl (cA_22, 300, .inl (fun _ => 0))), (q_23, .inl (cA_24, 1040, .inl (fun _ => 0))), (q_25, .inl (cA_26, 96, .inl (fun _ => 0))), (q_27, .inl (cA_28, 8, .inl (fun _ => 0))), (q_29, .inl (cA_30, 28000, .inl (fun _ => 0))), (q_31, .inl (cA_32, 8, .inl (fun _ => 0)))] := hD
  refine va_putF (D := (dC, dI)) (ci := 6) (v := .ref q_31) (ty := .array .int) (C := RX8) (T := TX8) (N := 39) hx hb hts iX8 tyX8 tyX8_ok nmX8 hown hK hP hD hS 0 rfl rfl 37 (by decide) (hts (.fieldLink RX8 124 "BatchTransferModel" "gotLen" "[I") (by decide +kernel)) (fun _ h9 => h9) rfl hin rfl (by decide +kernel) rfl rfl (Nat.le_of_ble_eq_true rfl) dX8_init_248 (fun H locs hP hD hS => ?_)
  have hP : va_P (dC, dI) vwCl [(mo, .inr (6, [.int 0, .ref q_1, .ref q_3, .int 0, .int 0, .ref q_5, .ref q_7, .ref q_9, .ref q_11, .int 0, .ref q_13, .ref q_15, .ref q_17, .ref q_19, .ref q_21, .int 0, .int 0, .int 0, .ref q_23, .int 0, .int 0, .int 0, .int 0, .int 0, .int 0, .int 0, .int 0, .int 0, .int 0, .int 0, .int 0, .int 0, .int 0, .int 0, .ref q_25, .ref q_27, .ref q_29, .ref q_31, .int 0])), (q_1, .inl (cA_2, 16, .inl (fun _ => 0))), (q_3, .inl (cA_4, 3100, .inl (fun _ => 0))), (q_5, .inl (cA_6, 96, .inl (fun _ => 0))), (q_7, .inl (cA_8, 8, .inl (fun _ => 0))), (q_9, .inl (cA_10, 24000, .inl (fun _ => 0))), (q_11, .inl (cA_12, 8, .inl (fun _ => 0))), (q_13, .inl (cA_14, 300, .inl (fun _ => 0))), (q_15, .inl (cA_16, 300, .inl (fun _ => 0))), (q_17, .inl (cA_18, 300, .inl (fun _ => 0))), (q_19, .inl (cA_20, 300, .inl (fun _ => 0))), (q_21, .inl (cA_22, 300, .inl (fun _ => 0))), (q_23, .inl (cA_24, 1040, .inl (fun _ => 0))), (q_25, .inl (cA_26, 96, .inl (fun _ => 0))), (q_27, .inl (cA_28, 8, .inl (fun _ => 0))), (q_29, .inl (cA_30, 28000, .inl (fun _ => 0))), (q_31, .inl (cA_32, 8, .inl (fun _ => 0)))] H := hP
  have hD : va_D A [(mo, .inr (6, [.int 0, .ref q_1, .ref q_3, .int 0, .int 0, .ref q_5, .ref q_7, .ref q_9, .ref q_11, .int 0, .ref q_13, .ref q_15, .ref q_17, .ref q_19, .ref q_21, .int 0, .int 0, .int 0, .ref q_23, .int 0, .int 0, .int 0, .int 0, .int 0, .int 0, .int 0, .int 0, .int 0, .int 0, .int 0, .int 0, .int 0, .int 0, .int 0, .ref q_25, .ref q_27, .ref q_29, .ref q_31, .int 0])), (q_1, .inl (cA_2, 16, .inl (fun _ => 0))), (q_3, .inl (cA_4, 3100, .inl (fun _ => 0))), (q_5, .inl (cA_6, 96, .inl (fun _ => 0))), (q_7, .inl (cA_8, 8, .inl (fun _ => 0))), (q_9, .inl (cA_10, 24000, .inl (fun _ => 0))), (q_11, .inl (cA_12, 8, .inl (fun _ => 0))), (q_13, .inl (cA_14, 300, .inl (fun _ => 0))), (q_15, .inl (cA_16, 300, .inl (fun _ => 0))), (q_17, .inl (cA_18, 300, .inl (fun _ => 0))), (q_19, .inl (cA_20, 300, .inl (fun _ => 0))), (q_21, .inl (cA_22, 300, .inl (fun _ => 0))), (q_23, .inl (cA_24, 1040, .inl (fun _ => 0))), (q_25, .inl (cA_26, 96, .inl (fun _ => 0))), (q_27, .inl (cA_28, 8, .inl (fun _ => 0))), (q_29, .inl (cA_30, 28000, .inl (fun _ => 0))), (q_31, .inl (cA_32, 8, .inl (fun _ => 0)))] := hD
  refine lv_aload_n hx hb dX8_init_251 rfl (lv_at hl 0 rfl) ?_
  refine lv_iconst (v := 0) hx hb dX8_init_252 (by decide) ?_
  refine va_put (D := (dC, dI)) (ci := 6) (v := .int 0) (ty := .int) (C := RX8) (T := TX8) (N := 39) hx hb hts iX8 tyX8 tyX8_ok nmX8 hown hK hP hD hS 0 rfl rfl 38 (by decide) (hts (.fieldLink RX8 127 "BatchTransferModel" "headSize" "I") (by decide +kernel)) (fun _ h9 => h9) rfl (by decide +kernel) rfl rfl (Nat.le_of_ble_eq_true rfl) dX8_init_253 (fun H locs hP hD hS => ?_)
  have hP : va_P (dC, dI) vwCl [(mo, .inr (6, [.int 0, .ref q_1, .ref q_3, .int 0, .int 0, .ref q_5, .ref q_7, .ref q_9, .ref q_11, .int 0, .ref q_13, .ref q_15, .ref q_17, .ref q_19, .ref q_21, .int 0, .int 0, .int 0, .ref q_23, .int 0, .int 0, .int 0, .int 0, .int 0, .int 0, .int 0, .int 0, .int 0, .int 0, .int 0, .int 0, .int 0, .int 0, .int 0, .ref q_25, .ref q_27, .ref q_29, .ref q_31, .int 0])), (q_1, .inl (cA_2, 16, .inl (fun _ => 0))), (q_3, .inl (cA_4, 3100, .inl (fun _ => 0))), (q_5, .inl (cA_6, 96, .inl (fun _ => 0))), (q_7, .inl (cA_8, 8, .inl (fun _ => 0))), (q_9, .inl (cA_10, 24000, .inl (fun _ => 0))), (q_11, .inl (cA_12, 8, .inl (fun _ => 0))), (q_13, .inl (cA_14, 300, .inl (fun _ => 0))), (q_15, .inl (cA_16, 300, .inl (fun _ => 0))), (q_17, .inl (cA_18, 300, .inl (fun _ => 0))), (q_19, .inl (cA_20, 300, .inl (fun _ => 0))), (q_21, .inl (cA_22, 300, .inl (fun _ => 0))), (q_23, .inl (cA_24, 1040, .inl (fun _ => 0))), (q_25, .inl (cA_26, 96, .inl (fun _ => 0))), (q_27, .inl (cA_28, 8, .inl (fun _ => 0))), (q_29, .inl (cA_30, 28000, .inl (fun _ => 0))), (q_31, .inl (cA_32, 8, .inl (fun _ => 0)))] H := hP
  have hD : va_D A [(mo, .inr (6, [.int 0, .ref q_1, .ref q_3, .int 0, .int 0, .ref q_5, .ref q_7, .ref q_9, .ref q_11, .int 0, .ref q_13, .ref q_15, .ref q_17, .ref q_19, .ref q_21, .int 0, .int 0, .int 0, .ref q_23, .int 0, .int 0, .int 0, .int 0, .int 0, .int 0, .int 0, .int 0, .int 0, .int 0, .int 0, .int 0, .int 0, .int 0, .int 0, .ref q_25, .ref q_27, .ref q_29, .ref q_31, .int 0])), (q_1, .inl (cA_2, 16, .inl (fun _ => 0))), (q_3, .inl (cA_4, 3100, .inl (fun _ => 0))), (q_5, .inl (cA_6, 96, .inl (fun _ => 0))), (q_7, .inl (cA_8, 8, .inl (fun _ => 0))), (q_9, .inl (cA_10, 24000, .inl (fun _ => 0))), (q_11, .inl (cA_12, 8, .inl (fun _ => 0))), (q_13, .inl (cA_14, 300, .inl (fun _ => 0))), (q_15, .inl (cA_16, 300, .inl (fun _ => 0))), (q_17, .inl (cA_18, 300, .inl (fun _ => 0))), (q_19, .inl (cA_20, 300, .inl (fun _ => 0))), (q_21, .inl (cA_22, 300, .inl (fun _ => 0))), (q_23, .inl (cA_24, 1040, .inl (fun _ => 0))), (q_25, .inl (cA_26, 96, .inl (fun _ => 0))), (q_27, .inl (cA_28, 8, .inl (fun _ => 0))), (q_29, .inl (cA_30, 28000, .inl (fun _ => 0))), (q_31, .inl (cA_32, 8, .inl (fun _ => 0)))] := hD
  refine lv_iconst (v := 0) hx hb dX8_init_256 (by decide) ?_
  refine lv_istore_n (lv' := [(1, .int 0), (0, .ref mo)]) hx hb dX8_init_257 rfl hl (by decide) rfl (fun ls hl => ?_)
  refine lv_iload_n hx hb dX8_init_258 rfl (lv_at hl 0 rfl) ?_
  refine lv_bipush (v := 16) hx hb dX8_init_259 (by decide) ?_
  refine lv_icmp_ge (tgt := 319) hx hb dX8_init_261 (by decide) (fun c_33 => absurd c_33 (by decide)) (fun c_33 => ?_)
  refine lv_iload_n hx hb dX8_init_264 rfl (lv_at hl 0 rfl) ?_
  refine lv_bipush (v := 12) hx hb dX8_init_265 (by decide) ?_
  refine lv_ishl hx hb dX8_init_267 ?_
  refine lv_topi (fun x_34 ex_34 => ?_)
  obtain rfl : x_34 = 0 := ex_34.trans (by decide)
  refine lv_istore_n (lv' := [(2, .int 0), (1, .int 0), (0, .ref mo)]) hx hb dX8_init_268 rfl hl (by decide) rfl (fun ls hl => ?_)
  refine lv_iconst (v := 0) hx hb dX8_init_269 (by decide) ?_
  refine lv_istore_n (lv' := [(3, .int 0), (2, .int 0), (1, .int 0), (0, .ref mo)]) hx hb dX8_init_270 rfl hl (by decide) rfl (fun ls hl => ?_)
  refine lv_iload_n hx hb dX8_init_271 rfl (lv_at hl 0 rfl) ?_
  refine lv_iconst (v := 4) hx hb dX8_init_272 (by decide) ?_
  refine lv_icmp_ge (tgt := 303) hx hb dX8_init_273 (by decide) (fun c_35 => absurd c_35 (by decide)) (fun c_35 => ?_)
  refine lv_iload_n hx hb dX8_init_276 rfl (lv_at hl 1 rfl) ?_
  refine lv_ldc (v := 32768) hx hb hown (hts (.constant RX8 130 (32768)) (by decide +kernel)) dX8_init_277 ?_
  refine lv_iand hx hb dX8_init_279 ?_
  refine lv_topi (fun x_36 ex_36 => ?_)
  obtain rfl : x_36 = 0 := ex_36.trans (by decide)
  refine lv_if_eq (tgt := 293) hx hb dX8_init_280 (by decide) (fun c_37 => ?_) (fun c_37 => absurd (by decide) c_37)
  refine lv_iload_n hx hb dX8_init_293 rfl (lv_at hl 1 rfl) ?_
  refine lv_iconst (v := 1) hx hb dX8_init_294 (by decide) ?_
  refine lv_ishl hx hb dX8_init_295 ?_
  refine lv_topi (fun x_38 ex_38 => ?_)
  obtain rfl : x_38 = 0 := ex_38.trans (by decide)
  refine lv_istore_n (lv' := [(2, .int 0), (3, .int 0), (1, .int 0), (0, .ref mo)]) hx hb dX8_init_296 rfl hl (by decide) rfl (fun ls hl => ?_)
  refine lv_iinc (v := 1) (lv' := [(3, .int 1), (2, .int 0), (1, .int 0), (0, .ref mo)]) hx hb dX8_init_297 hl (k := 1) rfl (by decide) (by decide) rfl (fun ls hl => ?_)
  refine lv_goto (tgt := 271) hx hb dX8_init_300 (by decide) ?_
  refine lv_iload_n hx hb dX8_init_271 rfl (lv_at hl 0 rfl) ?_
  refine lv_iconst (v := 4) hx hb dX8_init_272 (by decide) ?_
  refine lv_icmp_ge (tgt := 303) hx hb dX8_init_273 (by decide) (fun c_39 => absurd c_39 (by decide)) (fun c_39 => ?_)
  refine lv_iload_n hx hb dX8_init_276 rfl (lv_at hl 1 rfl) ?_
  refine lv_ldc (v := 32768) hx hb hown (hts (.constant RX8 130 (32768)) (by decide +kernel)) dX8_init_277 ?_
  refine lv_iand hx hb dX8_init_279 ?_
  refine lv_topi (fun x_40 ex_40 => ?_)
  obtain rfl : x_40 = 0 := ex_40.trans (by decide)
  refine lv_if_eq (tgt := 293) hx hb dX8_init_280 (by decide) (fun c_41 => ?_) (fun c_41 => absurd (by decide) c_41)
  refine lv_iload_n hx hb dX8_init_293 rfl (lv_at hl 1 rfl) ?_
  refine lv_iconst (v := 1) hx hb dX8_init_294 (by decide) ?_
  refine lv_ishl hx hb dX8_init_295 ?_
  refine lv_topi (fun x_42 ex_42 => ?_)
  obtain rfl : x_42 = 0 := ex_42.trans (by decide)
  refine lv_istore_n (lv' := [(2, .int 0), (3, .int 1), (1, .int 0), (0, .ref mo)]) hx hb dX8_init_296 rfl hl (by decide) rfl (fun ls hl => ?_)
  refine lv_iinc (v := 2) (lv' := [(3, .int 2), (2, .int 0), (1, .int 0), (0, .ref mo)]) hx hb dX8_init_297 hl (k := 1) rfl (by decide) (by decide) rfl (fun ls hl => ?_)
  refine lv_goto (tgt := 271) hx hb dX8_init_300 (by decide) ?_
  refine lv_iload_n hx hb dX8_init_271 rfl (lv_at hl 0 rfl) ?_
  refine lv_iconst (v := 4) hx hb dX8_init_272 (by decide) ?_
  refine lv_icmp_ge (tgt := 303) hx hb dX8_init_273 (by decide) (fun c_43 => absurd c_43 (by decide)) (fun c_43 => ?_)
  refine lv_iload_n hx hb dX8_init_276 rfl (lv_at hl 1 rfl) ?_
  refine lv_ldc (v := 32768) hx hb hown (hts (.constant RX8 130 (32768)) (by decide +kernel)) dX8_init_277 ?_
  refine lv_iand hx hb dX8_init_279 ?_
  refine lv_topi (fun x_44 ex_44 => ?_)
  obtain rfl : x_44 = 0 := ex_44.trans (by decide)
  refine lv_if_eq (tgt := 293) hx hb dX8_init_280 (by decide) (fun c_45 => ?_) (fun c_45 => absurd (by decide) c_45)
  refine lv_iload_n hx hb dX8_init_293 rfl (lv_at hl 1 rfl) ?_
  refine lv_iconst (v := 1) hx hb dX8_init_294 (by decide) ?_
  refine lv_ishl hx hb dX8_init_295 ?_
  refine lv_topi (fun x_46 ex_46 => ?_)
  obtain rfl : x_46 = 0 := ex_46.trans (by decide)
  refine lv_istore_n (lv' := [(2, .int 0), (3, .int 2), (1, .int 0), (0, .ref mo)]) hx hb dX8_init_296 rfl hl (by decide) rfl (fun ls hl => ?_)
  refine lv_iinc (v := 3) (lv' := [(3, .int 3), (2, .int 0), (1, .int 0), (0, .ref mo)]) hx hb dX8_init_297 hl (k := 1) rfl (by decide) (by decide) rfl (fun ls hl => ?_)
  refine lv_goto (tgt := 271) hx hb dX8_init_300 (by decide) ?_
  refine lv_iload_n hx hb dX8_init_271 rfl (lv_at hl 0 rfl) ?_
  refine lv_iconst (v := 4) hx hb dX8_init_272 (by decide) ?_
  refine lv_icmp_ge (tgt := 303) hx hb dX8_init_273 (by decide) (fun c_47 => absurd c_47 (by decide)) (fun c_47 => ?_)
  refine lv_iload_n hx hb dX8_init_276 rfl (lv_at hl 1 rfl) ?_
  refine lv_ldc (v := 32768) hx hb hown (hts (.constant RX8 130 (32768)) (by decide +kernel)) dX8_init_277 ?_
  refine lv_iand hx hb dX8_init_279 ?_
  refine lv_topi (fun x_48 ex_48 => ?_)
  obtain rfl : x_48 = 0 := ex_48.trans (by decide)
  refine lv_if_eq (tgt := 293) hx hb dX8_init_280 (by decide) (fun c_49 => ?_) (fun c_49 => absurd (by decide) c_49)
  refine lv_iload_n hx hb dX8_init_293 rfl (lv_at hl 1 rfl) ?_
  refine lv_iconst (v := 1) hx hb dX8_init_294 (by decide) ?_
  refine lv_ishl hx hb dX8_init_295 ?_
  refine lv_topi (fun x_50 ex_50 => ?_)
  obtain rfl : x_50 = 0 := ex_50.trans (by decide)
  refine lv_istore_n (lv' := [(2, .int 0), (3, .int 3), (1, .int 0), (0, .ref mo)]) hx hb dX8_init_296 rfl hl (by decide) rfl (fun ls hl => ?_)
  refine lv_iinc (v := 4) (lv' := [(3, .int 4), (2, .int 0), (1, .int 0), (0, .ref mo)]) hx hb dX8_init_297 hl (k := 1) rfl (by decide) (by decide) rfl (fun ls hl => ?_)
  refine lv_goto (tgt := 271) hx hb dX8_init_300 (by decide) ?_
  refine lv_iload_n hx hb dX8_init_271 rfl (lv_at hl 0 rfl) ?_
  refine lv_iconst (v := 4) hx hb dX8_init_272 (by decide) ?_
  refine lv_icmp_ge (tgt := 303) hx hb dX8_init_273 (by decide) (fun c_51 => ?_) (fun c_51 => absurd (by decide) c_51)
  refine lv_aload_n hx hb dX8_init_303 rfl (lv_at hl 3 rfl) ?_
  refine va_get (D := (dC, dI)) (ci := 6) (v := .ref q_1) (C := RX8) (T := TX8) (N := 39) hx hb hts iX8 hown hK hP 0 rfl rfl 1 (by decide) (hts (.fieldLink RX8 13 "BatchTransferModel" "nibbles" "[I") (by decide +kernel)) (fun _ h9 => h9) rfl dX8_init_304 ?_
  refine lv_iload_n hx hb dX8_init_307 rfl (lv_at hl 2 rfl) ?_
  refine lv_iload_n hx hb dX8_init_308 rfl (lv_at hl 1 rfl) ?_
  refine lv_ldc (v := 65535) hx hb hown (hts (.constant RX8 131 (65535)) (by decide +kernel)) dX8_init_309 ?_
  refine lv_iand hx hb dX8_init_311 ?_
  refine lv_topi (fun x_52 ex_52 => ?_)
  obtain rfl : x_52 = 0 := ex_52.trans (by decide)
  have h_53 : vp_in (0) 16 := by unfold vp_in; decide +kernel
  refine va_iast hx hb hK hP hD hS 1 0 rfl rfl h_53 dX8_init_312 (fun H locs hP hD hS => ?_)
  obtain ⟨f_54, ef_54⟩ : ∃ g : Nat → Int32, g = upd (fun _ => 0) (0 : Int32).toNatClampNeg 0 := ⟨_, rfl⟩
  have hP : va_P (dC, dI) vwCl [(mo, .inr (6, [.int 0, .ref q_1, .ref q_3, .int 0, .int 0, .ref q_5, .ref q_7, .ref q_9, .ref q_11, .int 0, .ref q_13, .ref q_15, .ref q_17, .ref q_19, .ref q_21, .int 0, .int 0, .int 0, .ref q_23, .int 0, .int 0, .int 0, .int 0, .int 0, .int 0, .int 0, .int 0, .int 0, .int 0, .int 0, .int 0, .int 0, .int 0, .int 0, .ref q_25, .ref q_27, .ref q_29, .ref q_31, .int 0])), (q_1, .inl (cA_2, 16, .inl f_54)), (q_3, .inl (cA_4, 3100, .inl (fun _ => 0))), (q_5, .inl (cA_6, 96, .inl (fun _ => 0))), (q_7, .inl (cA_8, 8, .inl (fun _ => 0))), (q_9, .inl (cA_10, 24000, .inl (fun _ => 0))), (q_11, .inl (cA_12, 8, .inl (fun _ => 0))), (q_13, .inl (cA_14, 300, .inl (fun _ => 0))), (q_15, .inl (cA_16, 300, .inl (fun _ => 0))), (q_17, .inl (cA_18, 300, .inl (fun _ => 0))), (q_19, .inl (cA_20, 300, .inl (fun _ => 0))), (q_21, .inl (cA_22, 300, .inl (fun _ => 0))), (q_23, .inl (cA_24, 1040, .inl (fun _ => 0))), (q_25, .inl (cA_26, 96, .inl (fun _ => 0))), (q_27, .inl (cA_28, 8, .inl (fun _ => 0))), (q_29, .inl (cA_30, 28000, .inl (fun _ => 0))), (q_31, .inl (cA_32, 8, .inl (fun _ => 0)))] H := by rw [ef_54]; exact hP
  have hD : va_D A [(mo, .inr (6, [.int 0, .ref q_1, .ref q_3, .int 0, .int 0, .ref q_5, .ref q_7, .ref q_9, .ref q_11, .int 0, .ref q_13, .ref q_15, .ref q_17, .ref q_19, .ref q_21, .int 0, .int 0, .int 0, .ref q_23, .int 0, .int 0, .int 0, .int 0, .int 0, .int 0, .int 0, .int 0, .int 0, .int 0, .int 0, .int 0, .int 0, .int 0, .int 0, .ref q_25, .ref q_27, .ref q_29, .ref q_31, .int 0])), (q_1, .inl (cA_2, 16, .inl f_54)), (q_3, .inl (cA_4, 3100, .inl (fun _ => 0))), (q_5, .inl (cA_6, 96, .inl (fun _ => 0))), (q_7, .inl (cA_8, 8, .inl (fun _ => 0))), (q_9, .inl (cA_10, 24000, .inl (fun _ => 0))), (q_11, .inl (cA_12, 8, .inl (fun _ => 0))), (q_13, .inl (cA_14, 300, .inl (fun _ => 0))), (q_15, .inl (cA_16, 300, .inl (fun _ => 0))), (q_17, .inl (cA_18, 300, .inl (fun _ => 0))), (q_19, .inl (cA_20, 300, .inl (fun _ => 0))), (q_21, .inl (cA_22, 300, .inl (fun _ => 0))), (q_23, .inl (cA_24, 1040, .inl (fun _ => 0))), (q_25, .inl (cA_26, 96, .inl (fun _ => 0))), (q_27, .inl (cA_28, 8, .inl (fun _ => 0))), (q_29, .inl (cA_30, 28000, .inl (fun _ => 0))), (q_31, .inl (cA_32, 8, .inl (fun _ => 0)))] := by rw [ef_54]; exact hD
  refine lv_iinc (v := 1) (lv' := [(1, .int 1), (3, .int 4), (2, .int 0), (0, .ref mo)]) hx hb dX8_init_313 hl (k := 2) rfl (by decide) (by decide) rfl (fun ls hl => ?_)
  refine lv_goto (tgt := 258) hx hb dX8_init_316 (by decide) ?_
  refine lv_iload_n hx hb dX8_init_258 rfl (lv_at hl 0 rfl) ?_
  refine lv_bipush (v := 16) hx hb dX8_init_259 (by decide) ?_
  refine lv_icmp_ge (tgt := 319) hx hb dX8_init_261 (by decide) (fun c_55 => absurd c_55 (by decide)) (fun c_55 => ?_)
  refine lv_iload_n hx hb dX8_init_264 rfl (lv_at hl 0 rfl) ?_
  refine lv_bipush (v := 12) hx hb dX8_init_265 (by decide) ?_
  refine lv_ishl hx hb dX8_init_267 ?_
  refine lv_topi (fun x_56 ex_56 => ?_)
  obtain rfl : x_56 = 4096 := ex_56.trans (by decide)
  refine lv_istore_n (lv' := [(2, .int 4096), (1, .int 1), (3, .int 4), (0, .ref mo)]) hx hb dX8_init_268 rfl hl (by decide) rfl (fun ls hl => ?_)
  refine lv_iconst (v := 0) hx hb dX8_init_269 (by decide) ?_
  refine lv_istore_n (lv' := [(3, .int 0), (2, .int 4096), (1, .int 1), (0, .ref mo)]) hx hb dX8_init_270 rfl hl (by decide) rfl (fun ls hl => ?_)
  refine lv_iload_n hx hb dX8_init_271 rfl (lv_at hl 0 rfl) ?_
  refine lv_iconst (v := 4) hx hb dX8_init_272 (by decide) ?_
  refine lv_icmp_ge (tgt := 303) hx hb dX8_init_273 (by decide) (fun c_57 => absurd c_57 (by decide)) (fun c_57 => ?_)
  refine lv_iload_n hx hb dX8_init_276 rfl (lv_at hl 1 rfl) ?_
  refine lv_ldc (v := 32768) hx hb hown (hts (.constant RX8 130 (32768)) (by decide +kernel)) dX8_init_277 ?_
  refine lv_iand hx hb dX8_init_279 ?_
  refine lv_topi (fun x_58 ex_58 => ?_)
  obtain rfl : x_58 = 0 := ex_58.trans (by decide)
  refine lv_if_eq (tgt := 293) hx hb dX8_init_280 (by decide) (fun c_59 => ?_) (fun c_59 => absurd (by decide) c_59)
  refine lv_iload_n hx hb dX8_init_293 rfl (lv_at hl 1 rfl) ?_
  refine lv_iconst (v := 1) hx hb dX8_init_294 (by decide) ?_
  refine lv_ishl hx hb dX8_init_295 ?_
  refine lv_topi (fun x_60 ex_60 => ?_)
  obtain rfl : x_60 = 8192 := ex_60.trans (by decide)
  refine lv_istore_n (lv' := [(2, .int 8192), (3, .int 0), (1, .int 1), (0, .ref mo)]) hx hb dX8_init_296 rfl hl (by decide) rfl (fun ls hl => ?_)
  refine lv_iinc (v := 1) (lv' := [(3, .int 1), (2, .int 8192), (1, .int 1), (0, .ref mo)]) hx hb dX8_init_297 hl (k := 1) rfl (by decide) (by decide) rfl (fun ls hl => ?_)
  refine lv_goto (tgt := 271) hx hb dX8_init_300 (by decide) ?_
  refine lv_iload_n hx hb dX8_init_271 rfl (lv_at hl 0 rfl) ?_
  refine lv_iconst (v := 4) hx hb dX8_init_272 (by decide) ?_
  refine lv_icmp_ge (tgt := 303) hx hb dX8_init_273 (by decide) (fun c_61 => absurd c_61 (by decide)) (fun c_61 => ?_)
  refine lv_iload_n hx hb dX8_init_276 rfl (lv_at hl 1 rfl) ?_
  refine lv_ldc (v := 32768) hx hb hown (hts (.constant RX8 130 (32768)) (by decide +kernel)) dX8_init_277 ?_
  refine lv_iand hx hb dX8_init_279 ?_
  refine lv_topi (fun x_62 ex_62 => ?_)
  obtain rfl : x_62 = 0 := ex_62.trans (by decide)
  refine lv_if_eq (tgt := 293) hx hb dX8_init_280 (by decide) (fun c_63 => ?_) (fun c_63 => absurd (by decide) c_63)
  refine lv_iload_n hx hb dX8_init_293 rfl (lv_at hl 1 rfl) ?_
  refine lv_iconst (v := 1) hx hb dX8_init_294 (by decide) ?_
  refine lv_ishl hx hb dX8_init_295 ?_
  refine lv_topi (fun x_64 ex_64 => ?_)
  obtain rfl : x_64 = 16384 := ex_64.trans (by decide)
  refine lv_istore_n (lv' := [(2, .int 16384), (3, .int 1), (1, .int 1), (0, .ref mo)]) hx hb dX8_init_296 rfl hl (by decide) rfl (fun ls hl => ?_)
  refine lv_iinc (v := 2) (lv' := [(3, .int 2), (2, .int 16384), (1, .int 1), (0, .ref mo)]) hx hb dX8_init_297 hl (k := 1) rfl (by decide) (by decide) rfl (fun ls hl => ?_)
  refine lv_goto (tgt := 271) hx hb dX8_init_300 (by decide) ?_
  refine lv_iload_n hx hb dX8_init_271 rfl (lv_at hl 0 rfl) ?_
  refine lv_iconst (v := 4) hx hb dX8_init_272 (by decide) ?_
  refine lv_icmp_ge (tgt := 303) hx hb dX8_init_273 (by decide) (fun c_65 => absurd c_65 (by decide)) (fun c_65 => ?_)
  refine lv_iload_n hx hb dX8_init_276 rfl (lv_at hl 1 rfl) ?_
  refine lv_ldc (v := 32768) hx hb hown (hts (.constant RX8 130 (32768)) (by decide +kernel)) dX8_init_277 ?_
  refine lv_iand hx hb dX8_init_279 ?_
  refine lv_topi (fun x_66 ex_66 => ?_)
  obtain rfl : x_66 = 0 := ex_66.trans (by decide)
  refine lv_if_eq (tgt := 293) hx hb dX8_init_280 (by decide) (fun c_67 => ?_) (fun c_67 => absurd (by decide) c_67)
  refine lv_iload_n hx hb dX8_init_293 rfl (lv_at hl 1 rfl) ?_
  refine lv_iconst (v := 1) hx hb dX8_init_294 (by decide) ?_
  refine lv_ishl hx hb dX8_init_295 ?_
  refine lv_topi (fun x_68 ex_68 => ?_)
  obtain rfl : x_68 = 32768 := ex_68.trans (by decide)
  refine lv_istore_n (lv' := [(2, .int 32768), (3, .int 2), (1, .int 1), (0, .ref mo)]) hx hb dX8_init_296 rfl hl (by decide) rfl (fun ls hl => ?_)
  refine lv_iinc (v := 3) (lv' := [(3, .int 3), (2, .int 32768), (1, .int 1), (0, .ref mo)]) hx hb dX8_init_297 hl (k := 1) rfl (by decide) (by decide) rfl (fun ls hl => ?_)
  refine lv_goto (tgt := 271) hx hb dX8_init_300 (by decide) ?_
  refine lv_iload_n hx hb dX8_init_271 rfl (lv_at hl 0 rfl) ?_
  refine lv_iconst (v := 4) hx hb dX8_init_272 (by decide) ?_
  refine lv_icmp_ge (tgt := 303) hx hb dX8_init_273 (by decide) (fun c_69 => absurd c_69 (by decide)) (fun c_69 => ?_)
  refine lv_iload_n hx hb dX8_init_276 rfl (lv_at hl 1 rfl) ?_
  refine lv_ldc (v := 32768) hx hb hown (hts (.constant RX8 130 (32768)) (by decide +kernel)) dX8_init_277 ?_
  refine lv_iand hx hb dX8_init_279 ?_
  refine lv_topi (fun x_70 ex_70 => ?_)
  obtain rfl : x_70 = 32768 := ex_70.trans (by decide)
  refine lv_if_eq (tgt := 293) hx hb dX8_init_280 (by decide) (fun c_71 => absurd c_71 (by decide)) (fun c_71 => ?_)
  refine lv_iload_n hx hb dX8_init_283 rfl (lv_at hl 1 rfl) ?_
  refine lv_iconst (v := 1) hx hb dX8_init_284 (by decide) ?_
  refine lv_ishl hx hb dX8_init_285 ?_
  refine lv_topi (fun x_72 ex_72 => ?_)
  obtain rfl : x_72 = 65536 := ex_72.trans (by decide)
  refine lv_sipush (v := 4129) hx hb dX8_init_286 (by decide) ?_
  refine lv_ixor hx hb dX8_init_289 ?_
  refine lv_topi (fun x_73 ex_73 => ?_)
  obtain rfl : x_73 = 69665 := ex_73.trans (by decide)
  refine lv_goto (tgt := 296) hx hb dX8_init_290 (by decide) ?_
  refine lv_istore_n (lv' := [(2, .int 69665), (3, .int 3), (1, .int 1), (0, .ref mo)]) hx hb dX8_init_296 rfl hl (by decide) rfl (fun ls hl => ?_)
  refine lv_iinc (v := 4) (lv' := [(3, .int 4), (2, .int 69665), (1, .int 1), (0, .ref mo)]) hx hb dX8_init_297 hl (k := 1) rfl (by decide) (by decide) rfl (fun ls hl => ?_)
  refine lv_goto (tgt := 271) hx hb dX8_init_300 (by decide) ?_
  refine lv_iload_n hx hb dX8_init_271 rfl (lv_at hl 0 rfl) ?_
  refine lv_iconst (v := 4) hx hb dX8_init_272 (by decide) ?_
  refine lv_icmp_ge (tgt := 303) hx hb dX8_init_273 (by decide) (fun c_74 => ?_) (fun c_74 => absurd (by decide) c_74)
  refine lv_aload_n hx hb dX8_init_303 rfl (lv_at hl 3 rfl) ?_
  refine va_get (D := (dC, dI)) (ci := 6) (v := .ref q_1) (C := RX8) (T := TX8) (N := 39) hx hb hts iX8 hown hK hP 0 rfl rfl 1 (by decide) (hts (.fieldLink RX8 13 "BatchTransferModel" "nibbles" "[I") (by decide +kernel)) (fun _ h9 => h9) rfl dX8_init_304 ?_
  refine lv_iload_n hx hb dX8_init_307 rfl (lv_at hl 2 rfl) ?_
  refine lv_iload_n hx hb dX8_init_308 rfl (lv_at hl 1 rfl) ?_
  refine lv_ldc (v := 65535) hx hb hown (hts (.constant RX8 131 (65535)) (by decide +kernel)) dX8_init_309 ?_
  refine lv_iand hx hb dX8_init_311 ?_
  refine lv_topi (fun x_75 ex_75 => ?_)
  obtain rfl : x_75 = 4129 := ex_75.trans (by decide)
  have h_76 : vp_in (1) 16 := by unfold vp_in; decide +kernel
  refine va_iast hx hb hK hP hD hS 1 0 rfl rfl h_76 dX8_init_312 (fun H locs hP hD hS => ?_)
  obtain ⟨f_77, ef_77⟩ : ∃ g : Nat → Int32, g = upd f_54 (1 : Int32).toNatClampNeg 4129 := ⟨_, rfl⟩
  have hP : va_P (dC, dI) vwCl [(mo, .inr (6, [.int 0, .ref q_1, .ref q_3, .int 0, .int 0, .ref q_5, .ref q_7, .ref q_9, .ref q_11, .int 0, .ref q_13, .ref q_15, .ref q_17, .ref q_19, .ref q_21, .int 0, .int 0, .int 0, .ref q_23, .int 0, .int 0, .int 0, .int 0, .int 0, .int 0, .int 0, .int 0, .int 0, .int 0, .int 0, .int 0, .int 0, .int 0, .int 0, .ref q_25, .ref q_27, .ref q_29, .ref q_31, .int 0])), (q_1, .inl (cA_2, 16, .inl f_77)), (q_3, .inl (cA_4, 3100, .inl (fun _ => 0))), (q_5, .inl (cA_6, 96, .inl (fun _ => 0))), (q_7, .inl (cA_8, 8, .inl (fun _ => 0))), (q_9, .inl (cA_10, 24000, .inl (fun _ => 0))), (q_11, .inl (cA_12, 8, .inl (fun _ => 0))), (q_13, .inl (cA_14, 300, .inl (fun _ => 0))), (q_15, .inl (cA_16, 300, .inl (fun _ => 0))), (q_17, .inl (cA_18, 300, .inl (fun _ => 0))), (q_19, .inl (cA_20, 300, .inl (fun _ => 0))), (q_21, .inl (cA_22, 300, .inl (fun _ => 0))), (q_23, .inl (cA_24, 1040, .inl (fun _ => 0))), (q_25, .inl (cA_26, 96, .inl (fun _ => 0))), (q_27, .inl (cA_28, 8, .inl (fun _ => 0))), (q_29, .inl (cA_30, 28000, .inl (fun _ => 0))), (q_31, .inl (cA_32, 8, .inl (fun _ => 0)))] H := by rw [ef_77]; exact hP
  have hD : va_D A [(mo, .inr (6, [.int 0, .ref q_1, .ref q_3, .int 0, .int 0, .ref q_5, .ref q_7, .ref q_9, .ref q_11, .int 0, .ref q_13, .ref q_15, .ref q_17, .ref q_19, .ref q_21, .int 0, .int 0, .int 0, .ref q_23, .int 0, .int 0, .int 0, .int 0, .int 0, .int 0, .int 0, .int 0, .int 0, .int 0, .int 0, .int 0, .int 0, .int 0, .int 0, .ref q_25, .ref q_27, .ref q_29, .ref q_31, .int 0])), (q_1, .inl (cA_2, 16, .inl f_77)), (q_3, .inl (cA_4, 3100, .inl (fun _ => 0))), (q_5, .inl (cA_6, 96, .inl (fun _ => 0))), (q_7, .inl (cA_8, 8, .inl (fun _ => 0))), (q_9, .inl (cA_10, 24000, .inl (fun _ => 0))), (q_11, .inl (cA_12, 8, .inl (fun _ => 0))), (q_13, .inl (cA_14, 300, .inl (fun _ => 0))), (q_15, .inl (cA_16, 300, .inl (fun _ => 0))), (q_17, .inl (cA_18, 300, .inl (fun _ => 0))), (q_19, .inl (cA_20, 300, .inl (fun _ => 0))), (q_21, .inl (cA_22, 300, .inl (fun _ => 0))), (q_23, .inl (cA_24, 1040, .inl (fun _ => 0))), (q_25, .inl (cA_26, 96, .inl (fun _ => 0))), (q_27, .inl (cA_28, 8, .inl (fun _ => 0))), (q_29, .inl (cA_30, 28000, .inl (fun _ => 0))), (q_31, .inl (cA_32, 8, .inl (fun _ => 0)))] := by rw [ef_77]; exact hD
  refine lv_iinc (v := 2) (lv' := [(1, .int 2), (3, .int 4), (2, .int 69665), (0, .ref mo)]) hx hb dX8_init_313 hl (k := 2) rfl (by decide) (by decide) rfl (fun ls hl => ?_)
  refine lv_goto (tgt := 258) hx hb dX8_init_316 (by decide) ?_
  refine lv_iload_n hx hb dX8_init_258 rfl (lv_at hl 0 rfl) ?_
  refine lv_bipush (v := 16) hx hb dX8_init_259 (by decide) ?_
  refine lv_icmp_ge (tgt := 319) hx hb dX8_init_261 (by decide) (fun c_78 => absurd c_78 (by decide)) (fun c_78 => ?_)
  refine lv_iload_n hx hb dX8_init_264 rfl (lv_at hl 0 rfl) ?_
  refine lv_bipush (v := 12) hx hb dX8_init_265 (by decide) ?_
  refine lv_ishl hx hb dX8_init_267 ?_
  refine lv_topi (fun x_79 ex_79 => ?_)
  obtain rfl : x_79 = 8192 := ex_79.trans (by decide)
  refine lv_istore_n (lv' := [(2, .int 8192), (1, .int 2), (3, .int 4), (0, .ref mo)]) hx hb dX8_init_268 rfl hl (by decide) rfl (fun ls hl => ?_)
  refine lv_iconst (v := 0) hx hb dX8_init_269 (by decide) ?_
  refine lv_istore_n (lv' := [(3, .int 0), (2, .int 8192), (1, .int 2), (0, .ref mo)]) hx hb dX8_init_270 rfl hl (by decide) rfl (fun ls hl => ?_)
  refine lv_iload_n hx hb dX8_init_271 rfl (lv_at hl 0 rfl) ?_
  refine lv_iconst (v := 4) hx hb dX8_init_272 (by decide) ?_
  refine lv_icmp_ge (tgt := 303) hx hb dX8_init_273 (by decide) (fun c_80 => absurd c_80 (by decide)) (fun c_80 => ?_)
  refine lv_iload_n hx hb dX8_init_276 rfl (lv_at hl 1 rfl) ?_
  refine lv_ldc (v := 32768) hx hb hown (hts (.constant RX8 130 (32768)) (by decide +kernel)) dX8_init_277 ?_
  refine lv_iand hx hb dX8_init_279 ?_
  refine lv_topi (fun x_81 ex_81 => ?_)
  obtain rfl : x_81 = 0 := ex_81.trans (by decide)
  refine lv_if_eq (tgt := 293) hx hb dX8_init_280 (by decide) (fun c_82 => ?_) (fun c_82 => absurd (by decide) c_82)
  refine lv_iload_n hx hb dX8_init_293 rfl (lv_at hl 1 rfl) ?_
  refine lv_iconst (v := 1) hx hb dX8_init_294 (by decide) ?_
  refine lv_ishl hx hb dX8_init_295 ?_
  refine lv_topi (fun x_83 ex_83 => ?_)
  obtain rfl : x_83 = 16384 := ex_83.trans (by decide)
  refine lv_istore_n (lv' := [(2, .int 16384), (3, .int 0), (1, .int 2), (0, .ref mo)]) hx hb dX8_init_296 rfl hl (by decide) rfl (fun ls hl => ?_)
  refine lv_iinc (v := 1) (lv' := [(3, .int 1), (2, .int 16384), (1, .int 2), (0, .ref mo)]) hx hb dX8_init_297 hl (k := 1) rfl (by decide) (by decide) rfl (fun ls hl => ?_)
  refine lv_goto (tgt := 271) hx hb dX8_init_300 (by decide) ?_
  refine lv_iload_n hx hb dX8_init_271 rfl (lv_at hl 0 rfl) ?_
  refine lv_iconst (v := 4) hx hb dX8_init_272 (by decide) ?_
  refine lv_icmp_ge (tgt := 303) hx hb dX8_init_273 (by decide) (fun c_84 => absurd c_84 (by decide)) (fun c_84 => ?_)
  refine lv_iload_n hx hb dX8_init_276 rfl (lv_at hl 1 rfl) ?_
  refine lv_ldc (v := 32768) hx hb hown (hts (.constant RX8 130 (32768)) (by decide +kernel)) dX8_init_277 ?_
  refine lv_iand hx hb dX8_init_279 ?_
  refine lv_topi (fun x_85 ex_85 => ?_)
  obtain rfl : x_85 = 0 := ex_85.trans (by decide)
  refine lv_if_eq (tgt := 293) hx hb dX8_init_280 (by decide) (fun c_86 => ?_) (fun c_86 => absurd (by decide) c_86)
  refine lv_iload_n hx hb dX8_init_293 rfl (lv_at hl 1 rfl) ?_
  refine lv_iconst (v := 1) hx hb dX8_init_294 (by decide) ?_
  refine lv_ishl hx hb dX8_init_295 ?_
  refine lv_topi (fun x_87 ex_87 => ?_)
  obtain rfl : x_87 = 32768 := ex_87.trans (by decide)
  refine lv_istore_n (lv' := [(2, .int 32768), (3, .int 1), (1, .int 2), (0, .ref mo)]) hx hb dX8_init_296 rfl hl (by decide) rfl (fun ls hl => ?_)
  refine lv_iinc (v := 2) (lv' := [(3, .int 2), (2, .int 32768), (1, .int 2), (0, .ref mo)]) hx hb dX8_init_297 hl (k := 1) rfl (by decide) (by decide) rfl (fun ls hl => ?_)
  refine lv_goto (tgt := 271) hx hb dX8_init_300 (by decide) ?_
  refine lv_iload_n hx hb dX8_init_271 rfl (lv_at hl 0 rfl) ?_
  refine lv_iconst (v := 4) hx hb dX8_init_272 (by decide) ?_
  refine lv_icmp_ge (tgt := 303) hx hb dX8_init_273 (by decide) (fun c_88 => absurd c_88 (by decide)) (fun c_88 => ?_)
  refine lv_iload_n hx hb dX8_init_276 rfl (lv_at hl 1 rfl) ?_
  refine lv_ldc (v := 32768) hx hb hown (hts (.constant RX8 130 (32768)) (by decide +kernel)) dX8_init_277 ?_
  refine lv_iand hx hb dX8_init_279 ?_
  refine lv_topi (fun x_89 ex_89 => ?_)
  obtain rfl : x_89 = 32768 := ex_89.trans (by decide)
  refine lv_if_eq (tgt := 293) hx hb dX8_init_280 (by decide) (fun c_90 => absurd c_90 (by decide)) (fun c_90 => ?_)
  refine lv_iload_n hx hb dX8_init_283 rfl (lv_at hl 1 rfl) ?_
  refine lv_iconst (v := 1) hx hb dX8_init_284 (by decide) ?_
  refine lv_ishl hx hb dX8_init_285 ?_
  refine lv_topi (fun x_91 ex_91 => ?_)
  obtain rfl : x_91 = 65536 := ex_91.trans (by decide)
  refine lv_sipush (v := 4129) hx hb dX8_init_286 (by decide) ?_
  refine lv_ixor hx hb dX8_init_289 ?_
  refine lv_topi (fun x_92 ex_92 => ?_)
  obtain rfl : x_92 = 69665 := ex_92.trans (by decide)
  refine lv_goto (tgt := 296) hx hb dX8_init_290 (by decide) ?_
  refine lv_istore_n (lv' := [(2, .int 69665), (3, .int 2), (1, .int 2), (0, .ref mo)]) hx hb dX8_init_296 rfl hl (by decide) rfl (fun ls hl => ?_)
  refine lv_iinc (v := 3) (lv' := [(3, .int 3), (2, .int 69665), (1, .int 2), (0, .ref mo)]) hx hb dX8_init_297 hl (k := 1) rfl (by decide) (by decide) rfl (fun ls hl => ?_)
  refine lv_goto (tgt := 271) hx hb dX8_init_300 (by decide) ?_
  refine lv_iload_n hx hb dX8_init_271 rfl (lv_at hl 0 rfl) ?_
  refine lv_iconst (v := 4) hx hb dX8_init_272 (by decide) ?_
  refine lv_icmp_ge (tgt := 303) hx hb dX8_init_273 (by decide) (fun c_93 => absurd c_93 (by decide)) (fun c_93 => ?_)
  refine lv_iload_n hx hb dX8_init_276 rfl (lv_at hl 1 rfl) ?_
  refine lv_ldc (v := 32768) hx hb hown (hts (.constant RX8 130 (32768)) (by decide +kernel)) dX8_init_277 ?_
  refine lv_iand hx hb dX8_init_279 ?_
  refine lv_topi (fun x_94 ex_94 => ?_)
  obtain rfl : x_94 = 0 := ex_94.trans (by decide)
  refine lv_if_eq (tgt := 293) hx hb dX8_init_280 (by decide) (fun c_95 => ?_) (fun c_95 => absurd (by decide) c_95)
  refine lv_iload_n hx hb dX8_init_293 rfl (lv_at hl 1 rfl) ?_
  refine lv_iconst (v := 1) hx hb dX8_init_294 (by decide) ?_
  refine lv_ishl hx hb dX8_init_295 ?_
  refine lv_topi (fun x_96 ex_96 => ?_)
  obtain rfl : x_96 = 139330 := ex_96.trans (by decide)
  refine lv_istore_n (lv' := [(2, .int 139330), (3, .int 3), (1, .int 2), (0, .ref mo)]) hx hb dX8_init_296 rfl hl (by decide) rfl (fun ls hl => ?_)
  refine lv_iinc (v := 4) (lv' := [(3, .int 4), (2, .int 139330), (1, .int 2), (0, .ref mo)]) hx hb dX8_init_297 hl (k := 1) rfl (by decide) (by decide) rfl (fun ls hl => ?_)
  refine lv_goto (tgt := 271) hx hb dX8_init_300 (by decide) ?_
  refine lv_iload_n hx hb dX8_init_271 rfl (lv_at hl 0 rfl) ?_
  refine lv_iconst (v := 4) hx hb dX8_init_272 (by decide) ?_
  refine lv_icmp_ge (tgt := 303) hx hb dX8_init_273 (by decide) (fun c_97 => ?_) (fun c_97 => absurd (by decide) c_97)
  refine lv_aload_n hx hb dX8_init_303 rfl (lv_at hl 3 rfl) ?_
  refine va_get (D := (dC, dI)) (ci := 6) (v := .ref q_1) (C := RX8) (T := TX8) (N := 39) hx hb hts iX8 hown hK hP 0 rfl rfl 1 (by decide) (hts (.fieldLink RX8 13 "BatchTransferModel" "nibbles" "[I") (by decide +kernel)) (fun _ h9 => h9) rfl dX8_init_304 ?_
  refine lv_iload_n hx hb dX8_init_307 rfl (lv_at hl 2 rfl) ?_
  refine lv_iload_n hx hb dX8_init_308 rfl (lv_at hl 1 rfl) ?_
  refine lv_ldc (v := 65535) hx hb hown (hts (.constant RX8 131 (65535)) (by decide +kernel)) dX8_init_309 ?_
  refine lv_iand hx hb dX8_init_311 ?_
  refine lv_topi (fun x_98 ex_98 => ?_)
  obtain rfl : x_98 = 8258 := ex_98.trans (by decide)
  have h_99 : vp_in (2) 16 := by unfold vp_in; decide +kernel
  refine va_iast hx hb hK hP hD hS 1 0 rfl rfl h_99 dX8_init_312 (fun H locs hP hD hS => ?_)
  obtain ⟨f_100, ef_100⟩ : ∃ g : Nat → Int32, g = upd f_77 (2 : Int32).toNatClampNeg 8258 := ⟨_, rfl⟩
  have hP : va_P (dC, dI) vwCl [(mo, .inr (6, [.int 0, .ref q_1, .ref q_3, .int 0, .int 0, .ref q_5, .ref q_7, .ref q_9, .ref q_11, .int 0, .ref q_13, .ref q_15, .ref q_17, .ref q_19, .ref q_21, .int 0, .int 0, .int 0, .ref q_23, .int 0, .int 0, .int 0, .int 0, .int 0, .int 0, .int 0, .int 0, .int 0, .int 0, .int 0, .int 0, .int 0, .int 0, .int 0, .ref q_25, .ref q_27, .ref q_29, .ref q_31, .int 0])), (q_1, .inl (cA_2, 16, .inl f_100)), (q_3, .inl (cA_4, 3100, .inl (fun _ => 0))), (q_5, .inl (cA_6, 96, .inl (fun _ => 0))), (q_7, .inl (cA_8, 8, .inl (fun _ => 0))), (q_9, .inl (cA_10, 24000, .inl (fun _ => 0))), (q_11, .inl (cA_12, 8, .inl (fun _ => 0))), (q_13, .inl (cA_14, 300, .inl (fun _ => 0))), (q_15, .inl (cA_16, 300, .inl (fun _ => 0))), (q_17, .inl (cA_18, 300, .inl (fun _ => 0))), (q_19, .inl (cA_20, 300, .inl (fun _ => 0))), (q_21, .inl (cA_22, 300, .inl (fun _ => 0))), (q_23, .inl (cA_24, 1040, .inl (fun _ => 0))), (q_25, .inl (cA_26, 96, .inl (fun _ => 0))), (q_27, .inl (cA_28, 8, .inl (fun _ => 0))), (q_29, .inl (cA_30, 28000, .inl (fun _ => 0))), (q_31, .inl (cA_32, 8, .inl (fun _ => 0)))] H := by rw [ef_100]; exact hP
  have hD : va_D A [(mo, .inr (6, [.int 0, .ref q_1, .ref q_3, .int 0, .int 0, .ref q_5, .ref q_7, .ref q_9, .ref q_11, .int 0, .ref q_13, .ref q_15, .ref q_17, .ref q_19, .ref q_21, .int 0, .int 0, .int 0, .ref q_23, .int 0, .int 0, .int 0, .int 0, .int 0, .int 0, .int 0, .int 0, .int 0, .int 0, .int 0, .int 0, .int 0, .int 0, .int 0, .ref q_25, .ref q_27, .ref q_29, .ref q_31, .int 0])), (q_1, .inl (cA_2, 16, .inl f_100)), (q_3, .inl (cA_4, 3100, .inl (fun _ => 0))), (q_5, .inl (cA_6, 96, .inl (fun _ => 0))), (q_7, .inl (cA_8, 8, .inl (fun _ => 0))), (q_9, .inl (cA_10, 24000, .inl (fun _ => 0))), (q_11, .inl (cA_12, 8, .inl (fun _ => 0))), (q_13, .inl (cA_14, 300, .inl (fun _ => 0))), (q_15, .inl (cA_16, 300, .inl (fun _ => 0))), (q_17, .inl (cA_18, 300, .inl (fun _ => 0))), (q_19, .inl (cA_20, 300, .inl (fun _ => 0))), (q_21, .inl (cA_22, 300, .inl (fun _ => 0))), (q_23, .inl (cA_24, 1040, .inl (fun _ => 0))), (q_25, .inl (cA_26, 96, .inl (fun _ => 0))), (q_27, .inl (cA_28, 8, .inl (fun _ => 0))), (q_29, .inl (cA_30, 28000, .inl (fun _ => 0))), (q_31, .inl (cA_32, 8, .inl (fun _ => 0)))] := by rw [ef_100]; exact hD
  refine lv_iinc (v := 3) (lv' := [(1, .int 3), (3, .int 4), (2, .int 139330), (0, .ref mo)]) hx hb dX8_init_313 hl (k := 2) rfl (by decide) (by decide) rfl (fun ls hl => ?_)
  refine lv_goto (tgt := 258) hx hb dX8_init_316 (by decide) ?_
  refine lv_iload_n hx hb dX8_init_258 rfl (lv_at hl 0 rfl) ?_
  refine lv_bipush (v := 16) hx hb dX8_init_259 (by decide) ?_
  refine lv_icmp_ge (tgt := 319) hx hb dX8_init_261 (by decide) (fun c_101 => absurd c_101 (by decide)) (fun c_101 => ?_)
  refine lv_iload_n hx hb dX8_init_264 rfl (lv_at hl 0 rfl) ?_
  refine lv_bipush (v := 12) hx hb dX8_init_265 (by decide) ?_
  refine lv_ishl hx hb dX8_init_267 ?_
  refine lv_topi (fun x_102 ex_102 => ?_)
  obtain rfl : x_102 = 12288 := ex_102.trans (by decide)
  refine lv_istore_n (lv' := [(2, .int 12288), (1, .int 3), (3, .int 4), (0, .ref mo)]) hx hb dX8_init_268 rfl hl (by decide) rfl (fun ls hl => ?_)
  refine lv_iconst (v := 0) hx hb dX8_init_269 (by decide) ?_
  refine lv_istore_n (lv' := [(3, .int 0), (2, .int 12288), (1, .int 3), (0, .ref mo)]) hx hb dX8_init_270 rfl hl (by decide) rfl (fun ls hl => ?_)
  refine lv_iload_n hx hb dX8_init_271 rfl (lv_at hl 0 rfl) ?_
  refine lv_iconst (v := 4) hx hb dX8_init_272 (by decide) ?_
  refine lv_icmp_ge (tgt := 303) hx hb dX8_init_273 (by decide) (fun c_103 => absurd c_103 (by decide)) (fun c_103 => ?_)
  refine lv_iload_n hx hb dX8_init_276 rfl (lv_at hl 1 rfl) ?_
  refine lv_ldc (v := 32768) hx hb hown (hts (.constant RX8 130 (32768)) (by decide +kernel)) dX8_init_277 ?_
  refine lv_iand hx hb dX8_init_279 ?_
  refine lv_topi (fun x_104 ex_104 => ?_)
  obtain rfl : x_104 = 0 := ex_104.trans (by decide)
  refine lv_if_eq (tgt := 293) hx hb dX8_init_280 (by decide) (fun c_105 => ?_) (fun c_105 => absurd (by decide) c_105)
  refine lv_iload_n hx hb dX8_init_293 rfl (lv_at hl 1 rfl) ?_
  refine lv_iconst (v := 1) hx hb dX8_init_294 (by decide) ?_
  refine lv_ishl hx hb dX8_init_295 ?_
  refine lv_topi (fun x_106 ex_106 => ?_)
  obtain rfl : x_106 = 24576 := ex_106.trans (by decide)
  refine lv_istore_n (lv' := [(2, .int 24576), (3, .int 0), (1, .int 3), (0, .ref mo)]) hx hb dX8_init_296 rfl hl (by decide) rfl (fun ls hl => ?_)
  refine lv_iinc (v := 1) (lv' := [(3, .int 1), (2, .int 24576), (1, .int 3), (0, .ref mo)]) hx hb dX8_init_297 hl (k := 1) rfl (by decide) (by decide) rfl (fun ls hl => ?_)
  refine lv_goto (tgt := 271) hx hb dX8_init_300 (by decide) ?_
  refine lv_iload_n hx hb dX8_init_271 rfl (lv_at hl 0 rfl) ?_
  refine lv_iconst (v := 4) hx hb dX8_init_272 (by decide) ?_
  refine lv_icmp_ge (tgt := 303) hx hb dX8_init_273 (by decide) (fun c_107 => absurd c_107 (by decide)) (fun c_107 => ?_)
  refine lv_iload_n hx hb dX8_init_276 rfl (lv_at hl 1 rfl) ?_
  refine lv_ldc (v := 32768) hx hb hown (hts (.constant RX8 130 (32768)) (by decide +kernel)) dX8_init_277 ?_
  refine lv_iand hx hb dX8_init_279 ?_
  refine lv_topi (fun x_108 ex_108 => ?_)
  obtain rfl : x_108 = 0 := ex_108.trans (by decide)
  refine lv_if_eq (tgt := 293) hx hb dX8_init_280 (by decide) (fun c_109 => ?_) (fun c_109 => absurd (by decide) c_109)
  refine lv_iload_n hx hb dX8_init_293 rfl (lv_at hl 1 rfl) ?_
  refine lv_iconst (v := 1) hx hb dX8_init_294 (by decide) ?_
  refine lv_ishl hx hb dX8_init_295 ?_
  refine lv_topi (fun x_110 ex_110 => ?_)
  obtain rfl : x_110 = 49152 := ex_110.trans (by decide)
  refine lv_istore_n (lv' := [(2, .int 49152), (3, .int 1), (1, .int 3), (0, .ref mo)]) hx hb dX8_init_296 rfl hl (by decide) rfl (fun ls hl => ?_)
  refine lv_iinc (v := 2) (lv' := [(3, .int 2), (2, .int 49152), (1, .int 3), (0, .ref mo)]) hx hb dX8_init_297 hl (k := 1) rfl (by decide) (by decide) rfl (fun ls hl => ?_)
  refine lv_goto (tgt := 271) hx hb dX8_init_300 (by decide) ?_
  refine lv_iload_n hx hb dX8_init_271 rfl (lv_at hl 0 rfl) ?_
  refine lv_iconst (v := 4) hx hb dX8_init_272 (by decide) ?_
  refine lv_icmp_ge (tgt := 303) hx hb dX8_init_273 (by decide) (fun c_111 => absurd c_111 (by decide)) (fun c_111 => ?_)
  refine lv_iload_n hx hb dX8_init_276 rfl (lv_at hl 1 rfl) ?_
  refine lv_ldc (v := 32768) hx hb hown (hts (.constant RX8 130 (32768)) (by decide +kernel)) dX8_init_277 ?_
  refine lv_iand hx hb dX8_init_279 ?_
  refine lv_topi (fun x_112 ex_112 => ?_)
  obtain rfl : x_112 = 32768 := ex_112.trans (by decide)
  refine lv_if_eq (tgt := 293) hx hb dX8_init_280 (by decide) (fun c_113 => absurd c_113 (by decide)) (fun c_113 => ?_)
  refine lv_iload_n hx hb dX8_init_283 rfl (lv_at hl 1 rfl) ?_
  refine lv_iconst (v := 1) hx hb dX8_init_284 (by decide) ?_
  refine lv_ishl hx hb dX8_init_285 ?_
  refine lv_topi (fun x_114 ex_114 => ?_)
  obtain rfl : x_114 = 98304 := ex_114.trans (by decide)
  refine lv_sipush (v := 4129) hx hb dX8_init_286 (by decide) ?_
  refine lv_ixor hx hb dX8_init_289 ?_
  refine lv_topi (fun x_115 ex_115 => ?_)
  obtain rfl : x_115 = 102433 := ex_115.trans (by decide)
  refine lv_goto (tgt := 296) hx hb dX8_init_290 (by decide) ?_
  refine lv_istore_n (lv' := [(2, .int 102433), (3, .int 2), (1, .int 3), (0, .ref mo)]) hx hb dX8_init_296 rfl hl (by decide) rfl (fun ls hl => ?_)
  refine lv_iinc (v := 3) (lv' := [(3, .int 3), (2, .int 102433), (1, .int 3), (0, .ref mo)]) hx hb dX8_init_297 hl (k := 1) rfl (by decide) (by decide) rfl (fun ls hl => ?_)
  refine lv_goto (tgt := 271) hx hb dX8_init_300 (by decide) ?_
  refine lv_iload_n hx hb dX8_init_271 rfl (lv_at hl 0 rfl) ?_
  refine lv_iconst (v := 4) hx hb dX8_init_272 (by decide) ?_
  refine lv_icmp_ge (tgt := 303) hx hb dX8_init_273 (by decide) (fun c_116 => absurd c_116 (by decide)) (fun c_116 => ?_)
  refine lv_iload_n hx hb dX8_init_276 rfl (lv_at hl 1 rfl) ?_
  refine lv_ldc (v := 32768) hx hb hown (hts (.constant RX8 130 (32768)) (by decide +kernel)) dX8_init_277 ?_
  refine lv_iand hx hb dX8_init_279 ?_
  refine lv_topi (fun x_117 ex_117 => ?_)
  obtain rfl : x_117 = 32768 := ex_117.trans (by decide)
  refine lv_if_eq (tgt := 293) hx hb dX8_init_280 (by decide) (fun c_118 => absurd c_118 (by decide)) (fun c_118 => ?_)
  refine lv_iload_n hx hb dX8_init_283 rfl (lv_at hl 1 rfl) ?_
  refine lv_iconst (v := 1) hx hb dX8_init_284 (by decide) ?_
  refine lv_ishl hx hb dX8_init_285 ?_
  refine lv_topi (fun x_119 ex_119 => ?_)
  obtain rfl : x_119 = 204866 := ex_119.trans (by decide)
  refine lv_sipush (v := 4129) hx hb dX8_init_286 (by decide) ?_
  refine lv_ixor hx hb dX8_init_289 ?_
  refine lv_topi (fun x_120 ex_120 => ?_)
  obtain rfl : x_120 = 208995 := ex_120.trans (by decide)
  refine lv_goto (tgt := 296) hx hb dX8_init_290 (by decide) ?_
  refine lv_istore_n (lv' := [(2, .int 208995), (3, .int 3), (1, .int 3), (0, .ref mo)]) hx hb dX8_init_296 rfl hl (by decide) rfl (fun ls hl => ?_)
  refine lv_iinc (v := 4) (lv' := [(3, .int 4), (2, .int 208995), (1, .int 3), (0, .ref mo)]) hx hb dX8_init_297 hl (k := 1) rfl (by decide) (by decide) rfl (fun ls hl => ?_)
  refine lv_goto (tgt := 271) hx hb dX8_init_300 (by decide) ?_
  refine lv_iload_n hx hb dX8_init_271 rfl (lv_at hl 0 rfl) ?_
  refine lv_iconst (v := 4) hx hb dX8_init_272 (by decide) ?_
  refine lv_icmp_ge (tgt := 303) hx hb dX8_init_273 (by decide) (fun c_121 => ?_) (fun c_121 => absurd (by decide) c_121)
  refine lv_aload_n hx hb dX8_init_303 rfl (lv_at hl 3 rfl) ?_
  refine va_get (D := (dC, dI)) (ci := 6) (v := .ref q_1) (C := RX8) (T := TX8) (N := 39) hx hb hts iX8 hown hK hP 0 rfl rfl 1 (by decide) (hts (.fieldLink RX8 13 "BatchTransferModel" "nibbles" "[I") (by decide +kernel)) (fun _ h9 => h9) rfl dX8_init_304 ?_
  refine lv_iload_n hx hb dX8_init_307 rfl (lv_at hl 2 rfl) ?_
  refine lv_iload_n hx hb dX8_init_308 rfl (lv_at hl 1 rfl) ?_
  refine lv_ldc (v := 65535) hx hb hown (hts (.constant RX8 131 (65535)) (by decide +kernel)) dX8_init_309 ?_
  refine lv_iand hx hb dX8_init_311 ?_
  refine lv_topi (fun x_122 ex_122 => ?_)
  obtain rfl : x_122 = 12387 := ex_122.trans (by decide)
  have h_123 : vp_in (3) 16 := by unfold vp_in; decide +kernel
  refine va_iast hx hb hK hP hD hS 1 0 rfl rfl h_123 dX8_init_312 (fun H locs hP hD hS => ?_)
  obtain ⟨f_124, ef_124⟩ : ∃ g : Nat → Int32, g = upd f_100 (3 : Int32).toNatClampNeg 12387 := ⟨_, rfl⟩
  have hP : va_P (dC, dI) vwCl [(mo, .inr (6, [.int 0, .ref q_1, .ref q_3, .int 0, .int 0, .ref q_5, .ref q_7, .ref q_9, .ref q_11, .int 0, .ref q_13, .ref q_15, .ref q_17, .ref q_19, .ref q_21, .int 0, .int 0, .int 0, .ref q_23, .int 0, .int 0, .int 0, .int 0, .int 0, .int 0, .int 0, .int 0, .int 0, .int 0, .int 0, .int 0, .int 0, .int 0, .int 0, .ref q_25, .ref q_27, .ref q_29, .ref q_31, .int 0])), (q_1, .inl (cA_2, 16, .inl f_124)), (q_3, .inl (cA_4, 3100, .inl (fun _ => 0))), (q_5, .inl (cA_6, 96, .inl (fun _ => 0))), (q_7, .inl (cA_8, 8, .inl (fun _ => 0))), (q_9, .inl (cA_10, 24000, .inl (fun _ => 0))), (q_11, .inl (cA_12, 8, .inl (fun _ => 0))), (q_13, .inl (cA_14, 300, .inl (fun _ => 0))), (q_15, .inl (cA_16, 300, .inl (fun _ => 0))), (q_17, .inl (cA_18, 300, .inl (fun _ => 0))), (q_19, .inl (cA_20, 300, .inl (fun _ => 0))), (q_21, .inl (cA_22, 300, .inl (fun _ => 0))), (q_23, .inl (cA_24, 1040, .inl (fun _ => 0))), (q_25, .inl (cA_26, 96, .inl (fun _ => 0))), (q_27, .inl (cA_28, 8, .inl (fun _ => 0))), (q_29, .inl (cA_30, 28000, .inl (fun _ => 0))), (q_31, .inl (cA_32, 8, .inl (fun _ => 0)))] H := by rw [ef_124]; exact hP
  have hD : va_D A [(mo, .inr (6, [.int 0, .ref q_1, .ref q_3, .int 0, .int 0, .ref q_5, .ref q_7, .ref q_9, .ref q_11, .int 0, .ref q_13, .ref q_15, .ref q_17, .ref q_19, .ref q_21, .int 0, .int 0, .int 0, .ref q_23, .int 0, .int 0, .int 0, .int 0, .int 0, .int 0, .int 0, .int 0, .int 0, .int 0, .int 0, .int 0, .int 0, .int 0, .int 0, .ref q_25, .ref q_27, .ref q_29, .ref q_31, .int 0])), (q_1, .inl (cA_2, 16, .inl f_124)), (q_3, .inl (cA_4, 3100, .inl (fun _ => 0))), (q_5, .inl (cA_6, 96, .inl (fun _ => 0))), (q_7, .inl (cA_8, 8, .inl (fun _ => 0))), (q_9, .inl (cA_10, 24000, .inl (fun _ => 0))), (q_11, .inl (cA_12, 8, .inl (fun _ => 0))), (q_13, .inl (cA_14, 300, .inl (fun _ => 0))), (q_15, .inl (cA_16, 300, .inl (fun _ => 0))), (q_17, .inl (cA_18, 300, .inl (fun _ => 0))), (q_19, .inl (cA_20, 300, .inl (fun _ => 0))), (q_21, .inl (cA_22, 300, .inl (fun _ => 0))), (q_23, .inl (cA_24, 1040, .inl (fun _ => 0))), (q_25, .inl (cA_26, 96, .inl (fun _ => 0))), (q_27, .inl (cA_28, 8, .inl (fun _ => 0))), (q_29, .inl (cA_30, 28000, .inl (fun _ => 0))), (q_31, .inl (cA_32, 8, .inl (fun _ => 0)))] := by rw [ef_124]; exact hD
  refine lv_iinc (v := 4) (lv' := [(1, .int 4), (3, .int 4), (2, .int 208995), (0, .ref mo)]) hx hb dX8_init_313 hl (k := 2) rfl (by decide) (by decide) rfl (fun ls hl => ?_)
  refine lv_goto (tgt := 258) hx hb dX8_init_316 (by decide) ?_
  refine lv_iload_n hx hb dX8_init_258 rfl (lv_at hl 0 rfl) ?_
  refine lv_bipush (v := 16) hx hb dX8_init_259 (by decide) ?_
  refine lv_icmp_ge (tgt := 319) hx hb dX8_init_261 (by decide) (fun c_125 => absurd c_125 (by decide)) (fun c_125 => ?_)
  refine lv_iload_n hx hb dX8_init_264 rfl (lv_at hl 0 rfl) ?_
  refine lv_bipush (v := 12) hx hb dX8_init_265 (by decide) ?_
  refine lv_ishl hx hb dX8_init_267 ?_
  refine lv_topi (fun x_126 ex_126 => ?_)
  obtain rfl : x_126 = 16384 := ex_126.trans (by decide)
  refine lv_istore_n (lv' := [(2, .int 16384), (1, .int 4), (3, .int 4), (0, .ref mo)]) hx hb dX8_init_268 rfl hl (by decide) rfl (fun ls hl => ?_)
  refine lv_iconst (v := 0) hx hb dX8_init_269 (by decide) ?_
  refine lv_istore_n (lv' := [(3, .int 0), (2, .int 16384), (1, .int 4), (0, .ref mo)]) hx hb dX8_init_270 rfl hl (by decide) rfl (fun ls hl => ?_)
  refine lv_iload_n hx hb dX8_init_271 rfl (lv_at hl 0 rfl) ?_
  refine lv_iconst (v := 4) hx hb dX8_init_272 (by decide) ?_
  refine lv_icmp_ge (tgt := 303) hx hb dX8_init_273 (by decide) (fun c_127 => absurd c_127 (by decide)) (fun c_127 => ?_)
  refine lv_iload_n hx hb dX8_init_276 rfl (lv_at hl 1 rfl) ?_
  refine lv_ldc (v := 32768) hx hb hown (hts (.constant RX8 130 (32768)) (by decide +kernel)) dX8_init_277 ?_
  refine lv_iand hx hb dX8_init_279 ?_
  refine lv_topi (fun x_128 ex_128 => ?_)
  obtain rfl : x_128 = 0 := ex_128.trans (by decide)
  refine lv_if_eq (tgt := 293) hx hb dX8_init_280 (by decide) (fun c_129 => ?_) (fun c_129 => absurd (by decide) c_129)
  refine lv_iload_n hx hb dX8_init_293 rfl (lv_at hl 1 rfl) ?_
  refine lv_iconst (v := 1) hx hb dX8_init_294 (by decide) ?_
  refine lv_ishl hx hb dX8_init_295 ?_
  refine lv_topi (fun x_130 ex_130 => ?_)
  obtain rfl : x_130 = 32768 := ex_130.trans (by decide)
  refine lv_istore_n (lv' := [(2, .int 32768), (3, .int 0), (1, .int 4), (0, .ref mo)]) hx hb dX8_init_296 rfl hl (by decide) rfl (fun ls hl => ?_)
  refine lv_iinc (v := 1) (lv' := [(3, .int 1), (2, .int 32768), (1, .int 4), (0, .ref mo)]) hx hb dX8_init_297 hl (k := 1) rfl (by decide) (by decide) rfl (fun ls hl => ?_)
  refine lv_goto (tgt := 271) hx hb dX8_init_300 (by decide) ?_
  refine lv_iload_n hx hb dX8_init_271 rfl (lv_at hl 0 rfl) ?_
  refine lv_iconst (v := 4) hx hb dX8_init_272 (by decide) ?_
  refine lv_icmp_ge (tgt := 303) hx hb dX8_init_273 (by decide) (fun c_131 => absurd c_131 (by decide)) (fun c_131 => ?_)
  refine lv_iload_n hx hb dX8_init_276 rfl (lv_at hl 1 rfl) ?_
  refine lv_ldc (v := 32768) hx hb hown (hts (.constant RX8 130 (32768)) (by decide +kernel)) dX8_init_277 ?_
  refine lv_iand hx hb dX8_init_279 ?_
  refine lv_topi (fun x_132 ex_132 => ?_)
  obtain rfl : x_132 = 32768 := ex_132.trans (by decide)
  refine lv_if_eq (tgt := 293) hx hb dX8_init_280 (by decide) (fun c_133 => absurd c_133 (by decide)) (fun c_133 => ?_)
  refine lv_iload_n hx hb dX8_init_283 rfl (lv_at hl 1 rfl) ?_
  refine lv_iconst (v := 1) hx hb dX8_init_284 (by decide) ?_
  refine lv_ishl hx hb dX8_init_285 ?_
  refine lv_topi (fun x_134 ex_134 => ?_)
  obtain rfl : x_134 = 65536 := ex_134.trans (by decide)
  refine lv_sipush (v := 4129) hx hb dX8_init_286 (by decide) ?_
  refine lv_ixor hx hb dX8_init_289 ?_
  refine lv_topi (fun x_135 ex_135 => ?_)
  obtain rfl : x_135 = 69665 := ex_135.trans (by decide)
  refine lv_goto (tgt := 296) hx hb dX8_init_290 (by decide) ?_
  refine lv_istore_n (lv' := [(2, .int 69665), (3, .int 1), (1, .int 4), (0, .ref mo)]) hx hb dX8_init_296 rfl hl (by decide) rfl (fun ls hl => ?_)
  refine lv_iinc (v := 2) (lv' := [(3, .int 2), (2, .int 69665), (1, .int 4), (0, .ref mo)]) hx hb dX8_init_297 hl (k := 1) rfl (by decide) (by decide) rfl (fun ls hl => ?_)
  refine lv_goto (tgt := 271) hx hb dX8_init_300 (by decide) ?_
  refine lv_iload_n hx hb dX8_init_271 rfl (lv_at hl 0 rfl) ?_
  refine lv_iconst (v := 4) hx hb dX8_init_272 (by decide) ?_
  refine lv_icmp_ge (tgt := 303) hx hb dX8_init_273 (by decide) (fun c_136 => absurd c_136 (by decide)) (fun c_136 => ?_)
  refine lv_iload_n hx hb dX8_init_276 rfl (lv_at hl 1 rfl) ?_
  refine lv_ldc (v := 32768) hx hb hown (hts (.constant RX8 130 (32768)) (by decide +kernel)) dX8_init_277 ?_
  refine lv_iand hx hb dX8_init_279 ?_
  refine lv_topi (fun x_137 ex_137 => ?_)
  obtain rfl : x_137 = 0 := ex_137.trans (by decide)
  refine lv_if_eq (tgt := 293) hx hb dX8_init_280 (by decide) (fun c_138 => ?_) (fun c_138 => absurd (by decide) c_138)
  refine lv_iload_n hx hb dX8_init_293 rfl (lv_at hl 1 rfl) ?_
  refine lv_iconst (v := 1) hx hb dX8_init_294 (by decide) ?_
  refine lv_ishl hx hb dX8_init_295 ?_
  refine lv_topi (fun x_139 ex_139 => ?_)
  obtain rfl : x_139 = 139330 := ex_139.trans (by decide)
  refine lv_istore_n (lv' := [(2, .int 139330), (3, .int 2), (1, .int 4), (0, .ref mo)]) hx hb dX8_init_296 rfl hl (by decide) rfl (fun ls hl => ?_)
  refine lv_iinc (v := 3) (lv' := [(3, .int 3), (2, .int 139330), (1, .int 4), (0, .ref mo)]) hx hb dX8_init_297 hl (k := 1) rfl (by decide) (by decide) rfl (fun ls hl => ?_)
  refine lv_goto (tgt := 271) hx hb dX8_init_300 (by decide) ?_
  refine lv_iload_n hx hb dX8_init_271 rfl (lv_at hl 0 rfl) ?_
  refine lv_iconst (v := 4) hx hb dX8_init_272 (by decide) ?_
  refine lv_icmp_ge (tgt := 303) hx hb dX8_init_273 (by decide) (fun c_140 => absurd c_140 (by decide)) (fun c_140 => ?_)
  refine lv_iload_n hx hb dX8_init_276 rfl (lv_at hl 1 rfl) ?_
  refine lv_ldc (v := 32768) hx hb hown (hts (.constant RX8 130 (32768)) (by decide +kernel)) dX8_init_277 ?_
  refine lv_iand hx hb dX8_init_279 ?_
  refine lv_topi (fun x_141 ex_141 => ?_)
  obtain rfl : x_141 = 0 := ex_141.trans (by decide)
  refine lv_if_eq (tgt := 293) hx hb dX8_init_280 (by decide) (fun c_142 => ?_) (fun c_142 => absurd (by decide) c_142)
  refine lv_iload_n hx hb dX8_init_293 rfl (lv_at hl 1 rfl) ?_
  refine lv_iconst (v := 1) hx hb dX8_init_294 (by decide) ?_
  refine lv_ishl hx hb dX8_init_295 ?_
  refine lv_topi (fun x_143 ex_143 => ?_)
  obtain rfl : x_143 = 278660 := ex_143.trans (by decide)
  refine lv_istore_n (lv' := [(2, .int 278660), (3, .int 3), (1, .int 4), (0, .ref mo)]) hx hb dX8_init_296 rfl hl (by decide) rfl (fun ls hl => ?_)
  refine lv_iinc (v := 4) (lv' := [(3, .int 4), (2, .int 278660), (1, .int 4), (0, .ref mo)]) hx hb dX8_init_297 hl (k := 1) rfl (by decide) (by decide) rfl (fun ls hl => ?_)
  refine lv_goto (tgt := 271) hx hb dX8_init_300 (by decide) ?_
  refine lv_iload_n hx hb dX8_init_271 rfl (lv_at hl 0 rfl) ?_
  refine lv_iconst (v := 4) hx hb dX8_init_272 (by decide) ?_
  refine lv_icmp_ge (tgt := 303) hx hb dX8_init_273 (by decide) (fun c_144 => ?_) (fun c_144 => absurd (by decide) c_144)
  refine lv_aload_n hx hb dX8_init_303 rfl (lv_at hl 3 rfl) ?_
  refine va_get (D := (dC, dI)) (ci := 6) (v := .ref q_1) (C := RX8) (T := TX8) (N := 39) hx hb hts iX8 hown hK hP 0 rfl rfl 1 (by decide) (hts (.fieldLink RX8 13 "BatchTransferModel" "nibbles" "[I") (by decide +kernel)) (fun _ h9 => h9) rfl dX8_init_304 ?_
  refine lv_iload_n hx hb dX8_init_307 rfl (lv_at hl 2 rfl) ?_
  refine lv_iload_n hx hb dX8_init_308 rfl (lv_at hl 1 rfl) ?_
  refine lv_ldc (v := 65535) hx hb hown (hts (.constant RX8 131 (65535)) (by decide +kernel)) dX8_init_309 ?_
  refine lv_iand hx hb dX8_init_311 ?_
  refine lv_topi (fun x_145 ex_145 => ?_)
  obtain rfl : x_145 = 16516 := ex_145.trans (by decide)
  have h_146 : vp_in (4) 16 := by unfold vp_in; decide +kernel
  refine va_iast hx hb hK hP hD hS 1 0 rfl rfl h_146 dX8_init_312 (fun H locs hP hD hS => ?_)
  obtain ⟨f_147, ef_147⟩ : ∃ g : Nat → Int32, g = upd f_124 (4 : Int32).toNatClampNeg 16516 := ⟨_, rfl⟩
  have hP : va_P (dC, dI) vwCl [(mo, .inr (6, [.int 0, .ref q_1, .ref q_3, .int 0, .int 0, .ref q_5, .ref q_7, .ref q_9, .ref q_11, .int 0, .ref q_13, .ref q_15, .ref q_17, .ref q_19, .ref q_21, .int 0, .int 0, .int 0, .ref q_23, .int 0, .int 0, .int 0, .int 0, .int 0, .int 0, .int 0, .int 0, .int 0, .int 0, .int 0, .int 0, .int 0, .int 0, .int 0, .ref q_25, .ref q_27, .ref q_29, .ref q_31, .int 0])), (q_1, .inl (cA_2, 16, .inl f_147)), (q_3, .inl (cA_4, 3100, .inl (fun _ => 0))), (q_5, .inl (cA_6, 96, .inl (fun _ => 0))), (q_7, .inl (cA_8, 8, .inl (fun _ => 0))), (q_9, .inl (cA_10, 24000, .inl (fun _ => 0))), (q_11, .inl (cA_12, 8, .inl (fun _ => 0))), (q_13, .inl (cA_14, 300, .inl (fun _ => 0))), (q_15, .inl (cA_16, 300, .inl (fun _ => 0))), (q_17, .inl (cA_18, 300, .inl (fun _ => 0))), (q_19, .inl (cA_20, 300, .inl (fun _ => 0))), (q_21, .inl (cA_22, 300, .inl (fun _ => 0))), (q_23, .inl (cA_24, 1040, .inl (fun _ => 0))), (q_25, .inl (cA_26, 96, .inl (fun _ => 0))), (q_27, .inl (cA_28, 8, .inl (fun _ => 0))), (q_29, .inl (cA_30, 28000, .inl (fun _ => 0))), (q_31, .inl (cA_32, 8, .inl (fun _ => 0)))] H := by rw [ef_147]; exact hP
  have hD : va_D A [(mo, .inr (6, [.int 0, .ref q_1, .ref q_3, .int 0, .int 0, .ref q_5, .ref q_7, .ref q_9, .ref q_11, .int 0, .ref q_13, .ref q_15, .ref q_17, .ref q_19, .ref q_21, .int 0, .int 0, .int 0, .ref q_23, .int 0, .int 0, .int 0, .int 0, .int 0, .int 0, .int 0, .int 0, .int 0, .int 0, .int 0, .int 0, .int 0, .int 0, .int 0, .ref q_25, .ref q_27, .ref q_29, .ref q_31, .int 0])), (q_1, .inl (cA_2, 16, .inl f_147)), (q_3, .inl (cA_4, 3100, .inl (fun _ => 0))), (q_5, .inl (cA_6, 96, .inl (fun _ => 0))), (q_7, .inl (cA_8, 8, .inl (fun _ => 0))), (q_9, .inl (cA_10, 24000, .inl (fun _ => 0))), (q_11, .inl (cA_12, 8, .inl (fun _ => 0))), (q_13, .inl (cA_14, 300, .inl (fun _ => 0))), (q_15, .inl (cA_16, 300, .inl (fun _ => 0))), (q_17, .inl (cA_18, 300, .inl (fun _ => 0))), (q_19, .inl (cA_20, 300, .inl (fun _ => 0))), (q_21, .inl (cA_22, 300, .inl (fun _ => 0))), (q_23, .inl (cA_24, 1040, .inl (fun _ => 0))), (q_25, .inl (cA_26, 96, .inl (fun _ => 0))), (q_27, .inl (cA_28, 8, .inl (fun _ => 0))), (q_29, .inl (cA_30, 28000, .inl (fun _ => 0))), (q_31, .inl (cA_32, 8, .inl (fun _ => 0)))] := by rw [ef_147]; exact hD
  refine lv_iinc (v := 5) (lv' := [(1, .int 5), (3, .int 4), (2, .int 278660), (0, .ref mo)]) hx hb dX8_init_313 hl (k := 2) rfl (by decide) (by decide) rfl (fun ls hl => ?_)
  refine lv_goto (tgt := 258) hx hb dX8_init_316 (by decide) ?_
  refine lv_iload_n hx hb dX8_init_258 rfl (lv_at hl 0 rfl) ?_
  refine lv_bipush (v := 16) hx hb dX8_init_259 (by decide) ?_
  refine lv_icmp_ge (tgt := 319) hx hb dX8_init_261 (by decide) (fun c_148 => absurd c_148 (by decide)) (fun c_148 => ?_)
  refine lv_iload_n hx hb dX8_init_264 rfl (lv_at hl 0 rfl) ?_
  refine lv_bipush (v := 12) hx hb dX8_init_265 (by decide) ?_
  refine lv_ishl hx hb dX8_init_267 ?_
  refine lv_topi (fun x_149 ex_149 => ?_)
  obtain rfl : x_149 = 20480 := ex_149.trans (by decide)
  refine lv_istore_n (lv' := [(2, .int 20480), (1, .int 5), (3, .int 4), (0, .ref mo)]) hx hb dX8_init_268 rfl hl (by decide) rfl (fun ls hl => ?_)
  refine lv_iconst (v := 0) hx hb dX8_init_269 (by decide) ?_
  refine lv_istore_n (lv' := [(3, .int 0), (2, .int 20480), (1, .int 5), (0, .ref mo)]) hx hb dX8_init_270 rfl hl (by decide) rfl (fun ls hl => ?_)
  refine lv_iload_n hx hb dX8_init_271 rfl (lv_at hl 0 rfl) ?_
  refine lv_iconst (v := 4) hx hb dX8_init_272 (by decide) ?_
  refine lv_icmp_ge (tgt := 303) hx hb dX8_init_273 (by decide) (fun c_150 => absurd c_150 (by decide)) (fun c_150 => ?_)
  refine lv_iload_n hx hb dX8_init_276 rfl (lv_at hl 1 rfl) ?_
  refine lv_ldc (v := 32768) hx hb hown (hts (.constant RX8 130 (32768)) (by decide +kernel)) dX8_init_277 ?_
  refine lv_iand hx hb dX8_init_279 ?_
  refine lv_topi (fun x_151 ex_151 => ?_)
  obtain rfl : x_151 = 0 := ex_151.trans (by decide)
  refine lv_if_eq (tgt := 293) hx hb dX8_init_280 (by decide) (fun c_152 => ?_) (fun c_152 => absurd (by decide) c_152)
  refine lv_iload_n hx hb dX8_init_293 rfl (lv_at hl 1 rfl) ?_
  refine lv_iconst (v := 1) hx hb dX8_init_294 (by decide) ?_
  refine lv_ishl hx hb dX8_init_295 ?_
  refine lv_topi (fun x_153 ex_153 => ?_)
  obtain rfl : x_153 = 40960 := ex_153.trans (by decide)
  refine lv_istore_n (lv' := [(2, .int 40960), (3, .int 0), (1, .int 5), (0, .ref mo)]) hx hb dX8_init_296 rfl hl (by decide) rfl (fun ls hl => ?_)
  refine lv_iinc (v := 1) (lv' := [(3, .int 1), (2, .int 40960), (1, .int 5), (0, .ref mo)]) hx hb dX8_init_297 hl (k := 1) rfl (by decide) (by decide) rfl (fun ls hl => ?_)
  refine lv_goto (tgt := 271) hx hb dX8_init_300 (by decide) ?_
  refine lv_iload_n hx hb dX8_init_271 rfl (lv_at hl 0 rfl) ?_
  refine lv_iconst (v := 4) hx hb dX8_init_272 (by decide) ?_
  refine lv_icmp_ge (tgt := 303) hx hb dX8_init_273 (by decide) (fun c_154 => absurd c_154 (by decide)) (fun c_154 => ?_)
  refine lv_iload_n hx hb dX8_init_276 rfl (lv_at hl 1 rfl) ?_
  refine lv_ldc (v := 32768) hx hb hown (hts (.constant RX8 130 (32768)) (by decide +kernel)) dX8_init_277 ?_
  refine lv_iand hx hb dX8_init_279 ?_
  refine lv_topi (fun x_155 ex_155 => ?_)
  obtain rfl : x_155 = 32768 := ex_155.trans (by decide)
  refine lv_if_eq (tgt := 293) hx hb dX8_init_280 (by decide) (fun c_156 => absurd c_156 (by decide)) (fun c_156 => ?_)
  refine lv_iload_n hx hb dX8_init_283 rfl (lv_at hl 1 rfl) ?_
  refine lv_iconst (v := 1) hx hb dX8_init_284 (by decide) ?_
  refine lv_ishl hx hb dX8_init_285 ?_
  refine lv_topi (fun x_157 ex_157 => ?_)
  obtain rfl : x_157 = 81920 := ex_157.trans (by decide)
  refine lv_sipush (v := 4129) hx hb dX8_init_286 (by decide) ?_
  refine lv_ixor hx hb dX8_init_289 ?_
  refine lv_topi (fun x_158 ex_158 => ?_)
  obtain rfl : x_158 = 86049 := ex_158.trans (by decide)
  refine lv_goto (tgt := 296) hx hb dX8_init_290 (by decide) ?_
  refine lv_istore_n (lv' := [(2, .int 86049), (3, .int 1), (1, .int 5), (0, .ref mo)]) hx hb dX8_init_296 rfl hl (by decide) rfl (fun ls hl => ?_)
  refine lv_iinc (v := 2) (lv' := [(3, .int 2), (2, .int 86049), (1, .int 5), (0, .ref mo)]) hx hb dX8_init_297 hl (k := 1) rfl (by decide) (by decide) rfl (fun ls hl => ?_)
  refine lv_goto (tgt := 271) hx hb dX8_init_300 (by decide) ?_
  refine lv_iload_n hx hb dX8_init_271 rfl (lv_at hl 0 rfl) ?_
  refine lv_iconst (v := 4) hx hb dX8_init_272 (by decide) ?_
  refine lv_icmp_ge (tgt := 303) hx hb dX8_init_273 (by decide) (fun c_159 => absurd c_159 (by decide)) (fun c_159 => ?_)
  refine lv_iload_n hx hb dX8_init_276 rfl (lv_at hl 1 rfl) ?_
  refine lv_ldc (v := 32768) hx hb hown (hts (.constant RX8 130 (32768)) (by decide +kernel)) dX8_init_277 ?_
  refine lv_iand hx hb dX8_init_279 ?_
  refine lv_topi (fun x_160 ex_160 => ?_)
  obtain rfl : x_160 = 0 := ex_160.trans (by decide)
  refine lv_if_eq (tgt := 293) hx hb dX8_init_280 (by decide) (fun c_161 => ?_) (fun c_161 => absurd (by decide) c_161)
  refine lv_iload_n hx hb dX8_init_293 rfl (lv_at hl 1 rfl) ?_
  refine lv_iconst (v := 1) hx hb dX8_init_294 (by decide) ?_
  refine lv_ishl hx hb dX8_init_295 ?_
  refine lv_topi (fun x_162 ex_162 => ?_)
  obtain rfl : x_162 = 172098 := ex_162.trans (by decide)
  refine lv_istore_n (lv' := [(2, .int 172098), (3, .int 2), (1, .int 5), (0, .ref mo)]) hx hb dX8_init_296 rfl hl (by decide) rfl (fun ls hl => ?_)
  refine lv_iinc (v := 3) (lv' := [(3, .int 3), (2, .int 172098), (1, .int 5), (0, .ref mo)]) hx hb dX8_init_297 hl (k := 1) rfl (by decide) (by decide) rfl (fun ls hl => ?_)
  refine lv_goto (tgt := 271) hx hb dX8_init_300 (by decide) ?_
  refine lv_iload_n hx hb dX8_init_271 rfl (lv_at hl 0 rfl) ?_
  refine lv_iconst (v := 4) hx hb dX8_init_272 (by decide) ?_
  refine lv_icmp_ge (tgt := 303) hx hb dX8_init_273 (by decide) (fun c_163 => absurd c_163 (by decide)) (fun c_163 => ?_)
  refine lv_iload_n hx hb dX8_init_276 rfl (lv_at hl 1 rfl) ?_
  refine lv_ldc (v := 32768) hx hb hown (hts (.constant RX8 130 (32768)) (by decide +kernel)) dX8_init_277 ?_
  refine lv_iand hx hb dX8_init_279 ?_
  refine lv_topi (fun x_164 ex_164 => ?_)
  obtain rfl : x_164 = 32768 := ex_164.trans (by decide)
  refine lv_if_eq (tgt := 293) hx hb dX8_init_280 (by decide) (fun c_165 => absurd c_165 (by decide)) (fun c_165 => ?_)
  refine lv_iload_n hx hb dX8_init_283 rfl (lv_at hl 1 rfl) ?_
  refine lv_iconst (v := 1) hx hb dX8_init_284 (by decide) ?_
  refine lv_ishl hx hb dX8_init_285 ?_
  refine lv_topi (fun x_166 ex_166 => ?_)
  obtain rfl : x_166 = 344196 := ex_166.trans (by decide)
  refine lv_sipush (v := 4129) hx hb dX8_init_286 (by decide) ?_
  refine lv_ixor hx hb dX8_init_289 ?_
  refine lv_topi (fun x_167 ex_167 => ?_)
  obtain rfl : x_167 = 348325 := ex_167.trans (by decide)
  refine lv_goto (tgt := 296) hx hb dX8_init_290 (by decide) ?_
  refine lv_istore_n (lv' := [(2, .int 348325), (3, .int 3), (1, .int 5), (0, .ref mo)]) hx hb dX8_init_296 rfl hl (by decide) rfl (fun ls hl => ?_)
  refine lv_iinc (v := 4) (lv' := [(3, .int 4), (2, .int 348325), (1, .int 5), (0, .ref mo)]) hx hb dX8_init_297 hl (k := 1) rfl (by decide) (by decide) rfl (fun ls hl => ?_)
  refine lv_goto (tgt := 271) hx hb dX8_init_300 (by decide) ?_
  refine lv_iload_n hx hb dX8_init_271 rfl (lv_at hl 0 rfl) ?_
  refine lv_iconst (v := 4) hx hb dX8_init_272 (by decide) ?_
  refine lv_icmp_ge (tgt := 303) hx hb dX8_init_273 (by decide) (fun c_168 => ?_) (fun c_168 => absurd (by decide) c_168)
  refine lv_aload_n hx hb dX8_init_303 rfl (lv_at hl 3 rfl) ?_
  refine va_get (D := (dC, dI)) (ci := 6) (v := .ref q_1) (C := RX8) (T := TX8) (N := 39) hx hb hts iX8 hown hK hP 0 rfl rfl 1 (by decide) (hts (.fieldLink RX8 13 "BatchTransferModel" "nibbles" "[I") (by decide +kernel)) (fun _ h9 => h9) rfl dX8_init_304 ?_
  refine lv_iload_n hx hb dX8_init_307 rfl (lv_at hl 2 rfl) ?_
  refine lv_iload_n hx hb dX8_init_308 rfl (lv_at hl 1 rfl) ?_
  refine lv_ldc (v := 65535) hx hb hown (hts (.constant RX8 131 (65535)) (by decide +kernel)) dX8_init_309 ?_
  refine lv_iand hx hb dX8_init_311 ?_
  refine lv_topi (fun x_169 ex_169 => ?_)
  obtain rfl : x_169 = 20645 := ex_169.trans (by decide)
  have h_170 : vp_in (5) 16 := by unfold vp_in; decide +kernel
  refine va_iast hx hb hK hP hD hS 1 0 rfl rfl h_170 dX8_init_312 (fun H locs hP hD hS => ?_)
  obtain ⟨f_171, ef_171⟩ : ∃ g : Nat → Int32, g = upd f_147 (5 : Int32).toNatClampNeg 20645 := ⟨_, rfl⟩
  have hP : va_P (dC, dI) vwCl [(mo, .inr (6, [.int 0, .ref q_1, .ref q_3, .int 0, .int 0, .ref q_5, .ref q_7, .ref q_9, .ref q_11, .int 0, .ref q_13, .ref q_15, .ref q_17, .ref q_19, .ref q_21, .int 0, .int 0, .int 0, .ref q_23, .int 0, .int 0, .int 0, .int 0, .int 0, .int 0, .int 0, .int 0, .int 0, .int 0, .int 0, .int 0, .int 0, .int 0, .int 0, .ref q_25, .ref q_27, .ref q_29, .ref q_31, .int 0])), (q_1, .inl (cA_2, 16, .inl f_171)), (q_3, .inl (cA_4, 3100, .inl (fun _ => 0))), (q_5, .inl (cA_6, 96, .inl (fun _ => 0))), (q_7, .inl (cA_8, 8, .inl (fun _ => 0))), (q_9, .inl (cA_10, 24000, .inl (fun _ => 0))), (q_11, .inl (cA_12, 8, .inl (fun _ => 0))), (q_13, .inl (cA_14, 300, .inl (fun _ => 0))), (q_15, .inl (cA_16, 300, .inl (fun _ => 0))), (q_17, .inl (cA_18, 300, .inl (fun _ => 0))), (q_19, .inl (cA_20, 300, .inl (fun _ => 0))), (q_21, .inl (cA_22, 300, .inl (fun _ => 0))), (q_23, .inl (cA_24, 1040, .inl (fun _ => 0))), (q_25, .inl (cA_26, 96, .inl (fun _ => 0))), (q_27, .inl (cA_28, 8, .inl (fun _ => 0))), (q_29, .inl (cA_30, 28000, .inl (fun _ => 0))), (q_31, .inl (cA_32, 8, .inl (fun _ => 0)))] H := by rw [ef_171]; exact hP
  have hD : va_D A [(mo, .inr (6, [.int 0, .ref q_1, .ref q_3, .int 0, .int 0, .ref q_5, .ref q_7, .ref q_9, .ref q_11, .int 0, .ref q_13, .ref q_15, .ref q_17, .ref q_19, .ref q_21, .int 0, .int 0, .int 0, .ref q_23, .int 0, .int 0, .int 0, .int 0, .int 0, .int 0, .int 0, .int 0, .int 0, .int 0, .int 0, .int 0, .int 0, .int 0, .int 0, .ref q_25, .ref q_27, .ref q_29, .ref q_31, .int 0])), (q_1, .inl (cA_2, 16, .inl f_171)), (q_3, .inl (cA_4, 3100, .inl (fun _ => 0))), (q_5, .inl (cA_6, 96, .inl (fun _ => 0))), (q_7, .inl (cA_8, 8, .inl (fun _ => 0))), (q_9, .inl (cA_10, 24000, .inl (fun _ => 0))), (q_11, .inl (cA_12, 8, .inl (fun _ => 0))), (q_13, .inl (cA_14, 300, .inl (fun _ => 0))), (q_15, .inl (cA_16, 300, .inl (fun _ => 0))), (q_17, .inl (cA_18, 300, .inl (fun _ => 0))), (q_19, .inl (cA_20, 300, .inl (fun _ => 0))), (q_21, .inl (cA_22, 300, .inl (fun _ => 0))), (q_23, .inl (cA_24, 1040, .inl (fun _ => 0))), (q_25, .inl (cA_26, 96, .inl (fun _ => 0))), (q_27, .inl (cA_28, 8, .inl (fun _ => 0))), (q_29, .inl (cA_30, 28000, .inl (fun _ => 0))), (q_31, .inl (cA_32, 8, .inl (fun _ => 0)))] := by rw [ef_171]; exact hD
  refine lv_iinc (v := 6) (lv' := [(1, .int 6), (3, .int 4), (2, .int 348325), (0, .ref mo)]) hx hb dX8_init_313 hl (k := 2) rfl (by decide) (by decide) rfl (fun ls hl => ?_)
  refine lv_goto (tgt := 258) hx hb dX8_init_316 (by decide) ?_
  refine lv_iload_n hx hb dX8_init_258 rfl (lv_at hl 0 rfl) ?_
  refine lv_bipush (v := 16) hx hb dX8_init_259 (by decide) ?_
  refine lv_icmp_ge (tgt := 319) hx hb dX8_init_261 (by decide) (fun c_172 => absurd c_172 (by decide)) (fun c_172 => ?_)
  refine lv_iload_n hx hb dX8_init_264 rfl (lv_at hl 0 rfl) ?_
  refine lv_bipush (v := 12) hx hb dX8_init_265 (by decide) ?_
  refine lv_ishl hx hb dX8_init_267 ?_
  refine lv_topi (fun x_173 ex_173 => ?_)
  obtain rfl : x_173 = 24576 := ex_173.trans (by decide)
  refine lv_istore_n (lv' := [(2, .int 24576), (1, .int 6), (3, .int 4), (0, .ref mo)]) hx hb dX8_init_268 rfl hl (by decide) rfl (fun ls hl => ?_)
  refine lv_iconst (v := 0) hx hb dX8_init_269 (by decide) ?_
  refine lv_istore_n (lv' := [(3, .int 0), (2, .int 24576), (1, .int 6), (0, .ref mo)]) hx hb dX8_init_270 rfl hl (by decide) rfl (fun ls hl => ?_)
  refine lv_iload_n hx hb dX8_init_271 rfl (lv_at hl 0 rfl) ?_
  refine lv_iconst (v := 4) hx hb dX8_init_272 (by decide) ?_
  refine lv_icmp_ge (tgt := 303) hx hb dX8_init_273 (by decide) (fun c_174 => absurd c_174 (by decide)) (fun c_174 => ?_)
  refine lv_iload_n hx hb dX8_init_276 rfl (lv_at hl 1 rfl) ?_
  refine lv_ldc (v := 32768) hx hb hown (hts (.constant RX8 130 (32768)) (by decide +kernel)) dX8_init_277 ?_
  refine lv_iand hx hb dX8_init_279 ?_
  refine lv_topi (fun x_175 ex_175 => ?_)
  obtain rfl : x_175 = 0 := ex_175.trans (by decide)
  refine lv_if_eq (tgt := 293) hx hb dX8_init_280 (by decide) (fun c_176 => ?_) (fun c_176 => absurd (by decide) c_176)
  refine lv_iload_n hx hb dX8_init_293 rfl (lv_at hl 1 rfl) ?_
  refine lv_iconst (v := 1) hx hb dX8_init_294 (by decide) ?_
  refine lv_ishl hx hb dX8_init_295 ?_
  refine lv_topi (fun x_177 ex_177 => ?_)
  obtain rfl : x_177 = 49152 := ex_177.trans (by decide)
  refine lv_istore_n (lv' := [(2, .int 49152), (3, .int 0), (1, .int 6), (0, .ref mo)]) hx hb dX8_init_296 rfl hl (by decide) rfl (fun ls hl => ?_)
  refine lv_iinc (v := 1) (lv' := [(3, .int 1), (2, .int 49152), (1, .int 6), (0, .ref mo)]) hx hb dX8_init_297 hl (k := 1) rfl (by decide) (by decide) rfl (fun ls hl => ?_)
  refine lv_goto (tgt := 271) hx hb dX8_init_300 (by decide) ?_
  refine lv_iload_n hx hb dX8_init_271 rfl (lv_at hl 0 rfl) ?_
  refine lv_iconst (v := 4) hx hb dX8_init_272 (by decide) ?_
  refine lv_icmp_ge (tgt := 303) hx hb dX8_init_273 (by decide) (fun c_178 => absurd c_178 (by decide)) (fun c_178 => ?_)
  refine lv_iload_n hx hb dX8_init_276 rfl (lv_at hl 1 rfl) ?_
  refine lv_ldc (v := 32768) hx hb hown (hts (.constant RX8 130 (32768)) (by decide +kernel)) dX8_init_277 ?_
  refine lv_iand hx hb dX8_init_279 ?_
  refine lv_topi (fun x_179 ex_179 => ?_)
  obtain rfl : x_179 = 32768 := ex_179.trans (by decide)
  refine lv_if_eq (tgt := 293) hx hb dX8_init_280 (by decide) (fun c_180 => absurd c_180 (by decide)) (fun c_180 => ?_)
  refine lv_iload_n hx hb dX8_init_283 rfl (lv_at hl 1 rfl) ?_
  refine lv_iconst (v := 1) hx hb dX8_init_284 (by decide) ?_
  refine lv_ishl hx hb dX8_init_285 ?_
  refine lv_topi (fun x_181 ex_181 => ?_)
  obtain rfl : x_181 = 98304 := ex_181.trans (by decide)
  refine lv_sipush (v := 4129) hx hb dX8_init_286 (by decide) ?_
  refine lv_ixor hx hb dX8_init_289 ?_
  refine lv_topi (fun x_182 ex_182 => ?_)
  obtain rfl : x_182 = 102433 := ex_182.trans (by decide)
  refine lv_goto (tgt := 296) hx hb dX8_init_290 (by decide) ?_
  refine lv_istore_n (lv' := [(2, .int 102433), (3, .int 1), (1, .int 6), (0, .ref mo)]) hx hb dX8_init_296 rfl hl (by decide) rfl (fun ls hl => ?_)
  refine lv_iinc (v := 2) (lv' := [(3, .int 2), (2, .int 102433), (1, .int 6), (0, .ref mo)]) hx hb dX8_init_297 hl (k := 1) rfl (by decide) (by decide) rfl (fun ls hl => ?_)
  refine lv_goto (tgt := 271) hx hb dX8_init_300 (by decide) ?_
  refine lv_iload_n hx hb dX8_init_271 rfl (lv_at hl 0 rfl) ?_
  refine lv_iconst (v := 4) hx hb dX8_init_272 (by decide) ?_
  refine lv_icmp_ge (tgt := 303) hx hb dX8_init_273 (by decide) (fun c_183 => absurd c_183 (by decide)) (fun c_183 => ?_)
  refine lv_iload_n hx hb dX8_init_276 rfl (lv_at hl 1 rfl) ?_
  refine lv_ldc (v := 32768) hx hb hown (hts (.constant RX8 130 (32768)) (by decide +kernel)) dX8_init_277 ?_
  refine lv_iand hx hb dX8_init_279 ?_
  refine lv_topi (fun x_184 ex_184 => ?_)
  obtain rfl : x_184 = 32768 := ex_184.trans (by decide)
  refine lv_if_eq (tgt := 293) hx hb dX8_init_280 (by decide) (fun c_185 => absurd c_185 (by decide)) (fun c_185 => ?_)
  refine lv_iload_n hx hb dX8_init_283 rfl (lv_at hl 1 rfl) ?_
  refine lv_iconst (v := 1) hx hb dX8_init_284 (by decide) ?_
  refine lv_ishl hx hb dX8_init_285 ?_
  refine lv_topi (fun x_186 ex_186 => ?_)
  obtain rfl : x_186 = 204866 := ex_186.trans (by decide)
  refine lv_sipush (v := 4129) hx hb dX8_init_286 (by decide) ?_
  refine lv_ixor hx hb dX8_init_289 ?_
  refine lv_topi (fun x_187 ex_187 => ?_)
  obtain rfl : x_187 = 208995 := ex_187.trans (by decide)
  refine lv_goto (tgt := 296) hx hb dX8_init_290 (by decide) ?_
  refine lv_istore_n (lv' := [(2, .int 208995), (3, .int 2), (1, .int 6), (0, .ref mo)]) hx hb dX8_init_296 rfl hl (by decide) rfl (fun ls hl => ?_)
  refine lv_iinc (v := 3) (lv' := [(3, .int 3), (2, .int 208995), (1, .int 6), (0, .ref mo)]) hx hb dX8_init_297 hl (k := 1) rfl (by decide) (by decide) rfl (fun ls hl => ?_)
  refine lv_goto (tgt := 271) hx hb dX8_init_300 (by decide) ?_
  refine lv_iload_n hx hb dX8_init_271 rfl (lv_at hl 0 rfl) ?_
  refine lv_iconst (v := 4) hx hb dX8_init_272 (by decide) ?_
  refine lv_icmp_ge (tgt := 303) hx hb dX8_init_273 (by decide) (fun c_188 => absurd c_188 (by decide)) (fun c_188 => ?_)
  refine lv_iload_n hx hb dX8_init_276 rfl (lv_at hl 1 rfl) ?_
  refine lv_ldc (v := 32768) hx hb hown (hts (.constant RX8 130 (32768)) (by decide +kernel)) dX8_init_277 ?_
  refine lv_iand hx hb dX8_init_279 ?_
  refine lv_topi (fun x_189 ex_189 => ?_)
  obtain rfl : x_189 = 0 := ex_189.trans (by decide)
  refine lv_if_eq (tgt := 293) hx hb dX8_init_280 (by decide) (fun c_190 => ?_) (fun c_190 => absurd (by decide) c_190)
  refine lv_iload_n hx hb dX8_init_293 rfl (lv_at hl 1 rfl) ?_
  refine lv_iconst (v := 1) hx hb dX8_init_294 (by decide) ?_
  refine lv_ishl hx hb dX8_init_295 ?_
  refine lv_topi (fun x_191 ex_191 => ?_)
  obtain rfl : x_191 = 417990 := ex_191.trans (by decide)
  refine lv_istore_n (lv' := [(2, .int 417990), (3, .int 3), (1, .int 6), (0, .ref mo)]) hx hb dX8_init_296 rfl hl (by decide) rfl (fun ls hl => ?_)
  refine lv_iinc (v := 4) (lv' := [(3, .int 4), (2, .int 417990), (1, .int 6), (0, .ref mo)]) hx hb dX8_init_297 hl (k := 1) rfl (by decide) (by decide) rfl (fun ls hl => ?_)
  refine lv_goto (tgt := 271) hx hb dX8_init_300 (by decide) ?_
  refine lv_iload_n hx hb dX8_init_271 rfl (lv_at hl 0 rfl) ?_
  refine lv_iconst (v := 4) hx hb dX8_init_272 (by decide) ?_
  refine lv_icmp_ge (tgt := 303) hx hb dX8_init_273 (by decide) (fun c_192 => ?_) (fun c_192 => absurd (by decide) c_192)
  refine lv_aload_n hx hb dX8_init_303 rfl (lv_at hl 3 rfl) ?_
  refine va_get (D := (dC, dI)) (ci := 6) (v := .ref q_1) (C := RX8) (T := TX8) (N := 39) hx hb hts iX8 hown hK hP 0 rfl rfl 1 (by decide) (hts (.fieldLink RX8 13 "BatchTransferModel" "nibbles" "[I") (by decide +kernel)) (fun _ h9 => h9) rfl dX8_init_304 ?_
  refine lv_iload_n hx hb dX8_init_307 rfl (lv_at hl 2 rfl) ?_
  refine lv_iload_n hx hb dX8_init_308 rfl (lv_at hl 1 rfl) ?_
  refine lv_ldc (v := 65535) hx hb hown (hts (.constant RX8 131 (65535)) (by decide +kernel)) dX8_init_309 ?_
  refine lv_iand hx hb dX8_init_311 ?_
  refine lv_topi (fun x_193 ex_193 => ?_)
  obtain rfl : x_193 = 24774 := ex_193.trans (by decide)
  have h_194 : vp_in (6) 16 := by unfold vp_in; decide +kernel
  refine va_iast hx hb hK hP hD hS 1 0 rfl rfl h_194 dX8_init_312 (fun H locs hP hD hS => ?_)
  obtain ⟨f_195, ef_195⟩ : ∃ g : Nat → Int32, g = upd f_171 (6 : Int32).toNatClampNeg 24774 := ⟨_, rfl⟩
  have hP : va_P (dC, dI) vwCl [(mo, .inr (6, [.int 0, .ref q_1, .ref q_3, .int 0, .int 0, .ref q_5, .ref q_7, .ref q_9, .ref q_11, .int 0, .ref q_13, .ref q_15, .ref q_17, .ref q_19, .ref q_21, .int 0, .int 0, .int 0, .ref q_23, .int 0, .int 0, .int 0, .int 0, .int 0, .int 0, .int 0, .int 0, .int 0, .int 0, .int 0, .int 0, .int 0, .int 0, .int 0, .ref q_25, .ref q_27, .ref q_29, .ref q_31, .int 0])), (q_1, .inl (cA_2, 16, .inl f_195)), (q_3, .inl (cA_4, 3100, .inl (fun _ => 0))), (q_5, .inl (cA_6, 96, .inl (fun _ => 0))), (q_7, .inl (cA_8, 8, .inl (fun _ => 0))), (q_9, .inl (cA_10, 24000, .inl (fun _ => 0))), (q_11, .inl (cA_12, 8, .inl (fun _ => 0))), (q_13, .inl (cA_14, 300, .inl (fun _ => 0))), (q_15, .inl (cA_16, 300, .inl (fun _ => 0))), (q_17, .inl (cA_18, 300, .inl (fun _ => 0))), (q_19, .inl (cA_20, 300, .inl (fun _ => 0))), (q_21, .inl (cA_22, 300, .inl (fun _ => 0))), (q_23, .inl (cA_24, 1040, .inl (fun _ => 0))), (q_25, .inl (cA_26, 96, .inl (fun _ => 0))), (q_27, .inl (cA_28, 8, .inl (fun _ => 0))), (q_29, .inl (cA_30, 28000, .inl (fun _ => 0))), (q_31, .inl (cA_32, 8, .inl (fun _ => 0)))] H := by rw [ef_195]; exact hP
  have hD : va_D A [(mo, .inr (6, [.int 0, .ref q_1, .ref q_3, .int 0, .int 0, .ref q_5, .ref q_7, .ref q_9, .ref q_11, .int 0, .ref q_13, .ref q_15, .ref q_17, .ref q_19, .ref q_21, .int 0, .int 0, .int 0, .ref q_23, .int 0, .int 0, .int 0, .int 0, .int 0, .int 0, .int 0, .int 0, .int 0, .int 0, .int 0, .int 0, .int 0, .int 0, .int 0, .ref q_25, .ref q_27, .ref q_29, .ref q_31, .int 0])), (q_1, .inl (cA_2, 16, .inl f_195)), (q_3, .inl (cA_4, 3100, .inl (fun _ => 0))), (q_5, .inl (cA_6, 96, .inl (fun _ => 0))), (q_7, .inl (cA_8, 8, .inl (fun _ => 0))), (q_9, .inl (cA_10, 24000, .inl (fun _ => 0))), (q_11, .inl (cA_12, 8, .inl (fun _ => 0))), (q_13, .inl (cA_14, 300, .inl (fun _ => 0))), (q_15, .inl (cA_16, 300, .inl (fun _ => 0))), (q_17, .inl (cA_18, 300, .inl (fun _ => 0))), (q_19, .inl (cA_20, 300, .inl (fun _ => 0))), (q_21, .inl (cA_22, 300, .inl (fun _ => 0))), (q_23, .inl (cA_24, 1040, .inl (fun _ => 0))), (q_25, .inl (cA_26, 96, .inl (fun _ => 0))), (q_27, .inl (cA_28, 8, .inl (fun _ => 0))), (q_29, .inl (cA_30, 28000, .inl (fun _ => 0))), (q_31, .inl (cA_32, 8, .inl (fun _ => 0)))] := by rw [ef_195]; exact hD
  refine lv_iinc (v := 7) (lv' := [(1, .int 7), (3, .int 4), (2, .int 417990), (0, .ref mo)]) hx hb dX8_init_313 hl (k := 2) rfl (by decide) (by decide) rfl (fun ls hl => ?_)
  refine lv_goto (tgt := 258) hx hb dX8_init_316 (by decide) ?_
  refine lv_iload_n hx hb dX8_init_258 rfl (lv_at hl 0 rfl) ?_
  refine lv_bipush (v := 16) hx hb dX8_init_259 (by decide) ?_
  refine lv_icmp_ge (tgt := 319) hx hb dX8_init_261 (by decide) (fun c_196 => absurd c_196 (by decide)) (fun c_196 => ?_)
  refine lv_iload_n hx hb dX8_init_264 rfl (lv_at hl 0 rfl) ?_
  refine lv_bipush (v := 12) hx hb dX8_init_265 (by decide) ?_
  refine lv_ishl hx hb dX8_init_267 ?_
  refine lv_topi (fun x_197 ex_197 => ?_)
  obtain rfl : x_197 = 28672 := ex_197.trans (by decide)
  refine lv_istore_n (lv' := [(2, .int 28672), (1, .int 7), (3, .int 4), (0, .ref mo)]) hx hb dX8_init_268 rfl hl (by decide) rfl (fun ls hl => ?_)
  refine lv_iconst (v := 0) hx hb dX8_init_269 (by decide) ?_
  refine lv_istore_n (lv' := [(3, .int 0), (2, .int 28672), (1, .int 7), (0, .ref mo)]) hx hb dX8_init_270 rfl hl (by decide) rfl (fun ls hl => ?_)
  refine lv_iload_n hx hb dX8_init_271 rfl (lv_at hl 0 rfl) ?_
  refine lv_iconst (v := 4) hx hb dX8_init_272 (by decide) ?_
  refine lv_icmp_ge (tgt := 303) hx hb dX8_init_273 (by decide) (fun c_198 => absurd c_198 (by decide)) (fun c_198 => ?_)
  refine lv_iload_n hx hb dX8_init_276 rfl (lv_at hl 1 rfl) ?_
  refine lv_ldc (v := 32768) hx hb hown (hts (.constant RX8 130 (32768)) (by decide +kernel)) dX8_init_277 ?_
  refine lv_iand hx hb dX8_init_279 ?_
  refine lv_topi (fun x_199 ex_199 => ?_)
  obtain rfl : x_199 = 0 := ex_199.trans (by decide)
  refine lv_if_eq (tgt := 293) hx hb dX8_init_280 (by decide) (fun c_200 => ?_) (fun c_200 => absurd (by decide) c_200)
  refine lv_iload_n hx hb dX8_init_293 rfl (lv_at hl 1 rfl) ?_
  refine lv_iconst (v := 1) hx hb dX8_init_294 (by decide) ?_
  refine lv_ishl hx hb dX8_init_295 ?_
  refine lv_topi (fun x_201 ex_201 => ?_)
  obtain rfl : x_201 = 57344 := ex_201.trans (by decide)
  refine lv_istore_n (lv' := [(2, .int 57344), (3, .int 0), (1, .int 7), (0, .ref mo)]) hx hb dX8_init_296 rfl hl (by decide) rfl (fun ls hl => ?_)
  refine lv_iinc (v := 1) (lv' := [(3, .int 1), (2, .int 57344), (1, .int 7), (0, .ref mo)]) hx hb dX8_init_297 hl (k := 1) rfl (by decide) (by decide) rfl (fun ls hl => ?_)
  refine lv_goto (tgt := 271) hx hb dX8_init_300 (by decide) ?_
  refine lv_iload_n hx hb dX8_init_271 rfl (lv_at hl 0 rfl) ?_
  refine lv_iconst (v := 4) hx hb dX8_init_272 (by decide) ?_
  refine lv_icmp_ge (tgt := 303) hx hb dX8_init_273 (by decide) (fun c_202 => absurd c_202 (by decide)) (fun c_202 => ?_)
  refine lv_iload_n hx hb dX8_init_276 rfl (lv_at hl 1 rfl) ?_
  refine lv_ldc (v := 32768) hx hb hown (hts (.constant RX8 130 (32768)) (by decide +kernel)) dX8_init_277 ?_
  refine lv_iand hx hb dX8_init_279 ?_
  refine lv_topi (fun x_203 ex_203 => ?_)
  obtain rfl : x_203 = 32768 := ex_203.trans (by decide)
  refine lv_if_eq (tgt := 293) hx hb dX8_init_280 (by decide) (fun c_204 => absurd c_204 (by decide)) (fun c_204 => ?_)
  refine lv_iload_n hx hb dX8_init_283 rfl (lv_at hl 1 rfl) ?_
  refine lv_iconst (v := 1) hx hb dX8_init_284 (by decide) ?_
  refine lv_ishl hx hb dX8_init_285 ?_
  refine lv_topi (fun x_205 ex_205 => ?_)
  obtain rfl : x_205 = 114688 := ex_205.trans (by decide)
  refine lv_sipush (v := 4129) hx hb dX8_init_286 (by decide) ?_
  refine lv_ixor hx hb dX8_init_289 ?_
  refine lv_topi (fun x_206 ex_206 => ?_)
  obtain rfl : x_206 = 118817 := ex_206.trans (by decide)
  refine lv_goto (tgt := 296) hx hb dX8_init_290 (by decide) ?_
  refine lv_istore_n (lv' := [(2, .int 118817), (3, .int 1), (1, .int 7), (0, .ref mo)]) hx hb dX8_init_296 rfl hl (by decide) rfl (fun ls hl => ?_)
  refine lv_iinc (v := 2) (lv' := [(3, .int 2), (2, .int 118817), (1, .int 7), (0, .ref mo)]) hx hb dX8_init_297 hl (k := 1) rfl (by decide) (by decide) rfl (fun ls hl => ?_)
  refine lv_goto (tgt := 271) hx hb dX8_init_300 (by decide) ?_
  refine lv_iload_n hx hb dX8_init_271 rfl (lv_at hl 0 rfl) ?_
  refine lv_iconst (v := 4) hx hb dX8_init_272 (by decide) ?_
  refine lv_icmp_ge (tgt := 303) hx hb dX8_init_273 (by decide) (fun c_207 => absurd c_207 (by decide)) (fun c_207 => ?_)
  refine lv_iload_n hx hb dX8_init_276 rfl (lv_at hl 1 rfl) ?_
  refine lv_ldc (v := 32768) hx hb hown (hts (.constant RX8 130 (32768)) (by decide +kernel)) dX8_init_277 ?_
  refine lv_iand hx hb dX8_init_279 ?_
  refine lv_topi (fun x_208 ex_208 => ?_)
  obtain rfl : x_208 = 32768 := ex_208.trans (by decide)
  refine lv_if_eq (tgt := 293) hx hb dX8_init_280 (by decide) (fun c_209 => absurd c_209 (by decide)) (fun c_209 => ?_)
  refine lv_iload_n hx hb dX8_init_283 rfl (lv_at hl 1 rfl) ?_
  refine lv_iconst (v := 1) hx hb dX8_init_284 (by decide) ?_
  refine lv_ishl hx hb dX8_init_285 ?_
  refine lv_topi (fun x_210 ex_210 => ?_)
  obtain rfl : x_210 = 237634 := ex_210.trans (by decide)
  refine lv_sipush (v := 4129) hx hb dX8_init_286 (by decide) ?_
  refine lv_ixor hx hb dX8_init_289 ?_
  refine lv_topi (fun x_211 ex_211 => ?_)
  obtain rfl : x_211 = 241763 := ex_211.trans (by decide)
  refine lv_goto (tgt := 296) hx hb dX8_init_290 (by decide) ?_
  refine lv_istore_n (lv' := [(2, .int 241763), (3, .int 2), (1, .int 7), (0, .ref mo)]) hx hb dX8_init_296 rfl hl (by decide) rfl (fun ls hl => ?_)
  refine lv_iinc (v := 3) (lv' := [(3, .int 3), (2, .int 241763), (1, .int 7), (0, .ref mo)]) hx hb dX8_init_297 hl (k := 1) rfl (by decide) (by decide) rfl (fun ls hl => ?_)
  refine lv_goto (tgt := 271) hx hb dX8_init_300 (by decide) ?_
  refine lv_iload_n hx hb dX8_init_271 rfl (lv_at hl 0 rfl) ?_
  refine lv_iconst (v := 4) hx hb dX8_init_272 (by decide) ?_
  refine lv_icmp_ge (tgt := 303) hx hb dX8_init_273 (by decide) (fun c_212 => absurd c_212 (by decide)) (fun c_212 => ?_)
  refine lv_iload_n hx hb dX8_init_276 rfl (lv_at hl 1 rfl) ?_
  refine lv_ldc (v := 32768) hx hb hown (hts (.constant RX8 130 (32768)) (by decide +kernel)) dX8_init_277 ?_
  refine lv_iand hx hb dX8_init_279 ?_
  refine lv_topi (fun x_213 ex_213 => ?_)
  obtain rfl : x_213 = 32768 := ex_213.trans (by decide)
  refine lv_if_eq (tgt := 293) hx hb dX8_init_280 (by decide) (fun c_214 => absurd c_214 (by decide)) (fun c_214 => ?_)
  refine lv_iload_n hx hb dX8_init_283 rfl (lv_at hl 1 rfl) ?_
  refine lv_iconst (v := 1) hx hb dX8_init_284 (by decide) ?_
  refine lv_ishl hx hb dX8_init_285 ?_
  refine lv_topi (fun x_215 ex_215 => ?_)
  obtain rfl : x_215 = 483526 := ex_215.trans (by decide)
  refine lv_sipush (v := 4129) hx hb dX8_init_286 (by decide) ?_
  refine lv_ixor hx hb dX8_init_289 ?_
  refine lv_topi (fun x_216 ex_216 => ?_)
  obtain rfl : x_216 = 487655 := ex_216.trans (by decide)
  refine lv_goto (tgt := 296) hx hb dX8_init_290 (by decide) ?_
  refine lv_istore_n (lv' := [(2, .int 487655), (3, .int 3), (1, .int 7), (0, .ref mo)]) hx hb dX8_init_296 rfl hl (by decide) rfl (fun ls hl => ?_)
  refine lv_iinc (v := 4) (lv' := [(3, .int 4), (2, .int 487655), (1, .int 7), (0, .ref mo)]) hx hb dX8_init_297 hl (k := 1) rfl (by decide) (by decide) rfl (fun ls hl => ?_)
  refine lv_goto (tgt := 271) hx hb dX8_init_300 (by decide) ?_
  refine lv_iload_n hx hb dX8_init_271 rfl (lv_at hl 0 rfl) ?_
  refine lv_iconst (v := 4) hx hb dX8_init_272 (by decide) ?_
  refine lv_icmp_ge (tgt := 303) hx hb dX8_init_273 (by decide) (fun c_217 => ?_) (fun c_217 => absurd (by decide) c_217)
  refine lv_aload_n hx hb dX8_init_303 rfl (lv_at hl 3 rfl) ?_
  refine va_get (D := (dC, dI)) (ci := 6) (v := .ref q_1) (C := RX8) (T := TX8) (N := 39) hx hb hts iX8 hown hK hP 0 rfl rfl 1 (by decide) (hts (.fieldLink RX8 13 "BatchTransferModel" "nibbles" "[I") (by decide +kernel)) (fun _ h9 => h9) rfl dX8_init_304 ?_
  refine lv_iload_n hx hb dX8_init_307 rfl (lv_at hl 2 rfl) ?_
  refine lv_iload_n hx hb dX8_init_308 rfl (lv_at hl 1 rfl) ?_
  refine lv_ldc (v := 65535) hx hb hown (hts (.constant RX8 131 (65535)) (by decide +kernel)) dX8_init_309 ?_
  refine lv_iand hx hb dX8_init_311 ?_
  refine lv_topi (fun x_218 ex_218 => ?_)
  obtain rfl : x_218 = 28903 := ex_218.trans (by decide)
  have h_219 : vp_in (7) 16 := by unfold vp_in; decide +kernel
  refine va_iast hx hb hK hP hD hS 1 0 rfl rfl h_219 dX8_init_312 (fun H locs hP hD hS => ?_)
  obtain ⟨f_220, ef_220⟩ : ∃ g : Nat → Int32, g = upd f_195 (7 : Int32).toNatClampNeg 28903 := ⟨_, rfl⟩
  have hP : va_P (dC, dI) vwCl [(mo, .inr (6, [.int 0, .ref q_1, .ref q_3, .int 0, .int 0, .ref q_5, .ref q_7, .ref q_9, .ref q_11, .int 0, .ref q_13, .ref q_15, .ref q_17, .ref q_19, .ref q_21, .int 0, .int 0, .int 0, .ref q_23, .int 0, .int 0, .int 0, .int 0, .int 0, .int 0, .int 0, .int 0, .int 0, .int 0, .int 0, .int 0, .int 0, .int 0, .int 0, .ref q_25, .ref q_27, .ref q_29, .ref q_31, .int 0])), (q_1, .inl (cA_2, 16, .inl f_220)), (q_3, .inl (cA_4, 3100, .inl (fun _ => 0))), (q_5, .inl (cA_6, 96, .inl (fun _ => 0))), (q_7, .inl (cA_8, 8, .inl (fun _ => 0))), (q_9, .inl (cA_10, 24000, .inl (fun _ => 0))), (q_11, .inl (cA_12, 8, .inl (fun _ => 0))), (q_13, .inl (cA_14, 300, .inl (fun _ => 0))), (q_15, .inl (cA_16, 300, .inl (fun _ => 0))), (q_17, .inl (cA_18, 300, .inl (fun _ => 0))), (q_19, .inl (cA_20, 300, .inl (fun _ => 0))), (q_21, .inl (cA_22, 300, .inl (fun _ => 0))), (q_23, .inl (cA_24, 1040, .inl (fun _ => 0))), (q_25, .inl (cA_26, 96, .inl (fun _ => 0))), (q_27, .inl (cA_28, 8, .inl (fun _ => 0))), (q_29, .inl (cA_30, 28000, .inl (fun _ => 0))), (q_31, .inl (cA_32, 8, .inl (fun _ => 0)))] H := by rw [ef_220]; exact hP
  have hD : va_D A [(mo, .inr (6, [.int 0, .ref q_1, .ref q_3, .int 0, .int 0, .ref q_5, .ref q_7, .ref q_9, .ref q_11, .int 0, .ref q_13, .ref q_15, .ref q_17, .ref q_19, .ref q_21, .int 0, .int 0, .int 0, .ref q_23, .int 0, .int 0, .int 0, .int 0, .int 0, .int 0, .int 0, .int 0, .int 0, .int 0, .int 0, .int 0, .int 0, .int 0, .int 0, .ref q_25, .ref q_27, .ref q_29, .ref q_31, .int 0])), (q_1, .inl (cA_2, 16, .inl f_220)), (q_3, .inl (cA_4, 3100, .inl (fun _ => 0))), (q_5, .inl (cA_6, 96, .inl (fun _ => 0))), (q_7, .inl (cA_8, 8, .inl (fun _ => 0))), (q_9, .inl (cA_10, 24000, .inl (fun _ => 0))), (q_11, .inl (cA_12, 8, .inl (fun _ => 0))), (q_13, .inl (cA_14, 300, .inl (fun _ => 0))), (q_15, .inl (cA_16, 300, .inl (fun _ => 0))), (q_17, .inl (cA_18, 300, .inl (fun _ => 0))), (q_19, .inl (cA_20, 300, .inl (fun _ => 0))), (q_21, .inl (cA_22, 300, .inl (fun _ => 0))), (q_23, .inl (cA_24, 1040, .inl (fun _ => 0))), (q_25, .inl (cA_26, 96, .inl (fun _ => 0))), (q_27, .inl (cA_28, 8, .inl (fun _ => 0))), (q_29, .inl (cA_30, 28000, .inl (fun _ => 0))), (q_31, .inl (cA_32, 8, .inl (fun _ => 0)))] := by rw [ef_220]; exact hD
  refine lv_iinc (v := 8) (lv' := [(1, .int 8), (3, .int 4), (2, .int 487655), (0, .ref mo)]) hx hb dX8_init_313 hl (k := 2) rfl (by decide) (by decide) rfl (fun ls hl => ?_)
  refine lv_goto (tgt := 258) hx hb dX8_init_316 (by decide) ?_
  refine lv_iload_n hx hb dX8_init_258 rfl (lv_at hl 0 rfl) ?_
  refine lv_bipush (v := 16) hx hb dX8_init_259 (by decide) ?_
  refine lv_icmp_ge (tgt := 319) hx hb dX8_init_261 (by decide) (fun c_221 => absurd c_221 (by decide)) (fun c_221 => ?_)
  refine lv_iload_n hx hb dX8_init_264 rfl (lv_at hl 0 rfl) ?_
  refine lv_bipush (v := 12) hx hb dX8_init_265 (by decide) ?_
  refine lv_ishl hx hb dX8_init_267 ?_
  refine lv_topi (fun x_222 ex_222 => ?_)
  obtain rfl : x_222 = 32768 := ex_222.trans (by decide)
  refine lv_istore_n (lv' := [(2, .int 32768), (1, .int 8), (3, .int 4), (0, .ref mo)]) hx hb dX8_init_268 rfl hl (by decide) rfl (fun ls hl => ?_)
  refine lv_iconst (v := 0) hx hb dX8_init_269 (by decide) ?_
  refine lv_istore_n (lv' := [(3, .int 0), (2, .int 32768), (1, .int 8), (0, .ref mo)]) hx hb dX8_init_270 rfl hl (by decide) rfl (fun ls hl => ?_)
  refine lv_iload_n hx hb dX8_init_271 rfl (lv_at hl 0 rfl) ?_
  refine lv_iconst (v := 4) hx hb dX8_init_272 (by decide) ?_
  refine lv_icmp_ge (tgt := 303) hx hb dX8_init_273 (by decide) (fun c_223 => absurd c_223 (by decide)) (fun c_223 => ?_)
  refine lv_iload_n hx hb dX8_init_276 rfl (lv_at hl 1 rfl) ?_
  refine lv_ldc (v := 32768) hx hb hown (hts (.constant RX8 130 (32768)) (by decide +kernel)) dX8_init_277 ?_
  refine lv_iand hx hb dX8_init_279 ?_
  refine lv_topi (fun x_224 ex_224 => ?_)
  obtain rfl : x_224 = 32768 := ex_224.trans (by decide)
  refine lv_if_eq (tgt := 293) hx hb dX8_init_280 (by decide) (fun c_225 => absurd c_225 (by decide)) (fun c_225 => ?_)
  refine lv_iload_n hx hb dX8_init_283 rfl (lv_at hl 1 rfl) ?_
  refine lv_iconst (v := 1) hx hb dX8_init_284 (by decide) ?_
  refine lv_ishl hx hb dX8_init_285 ?_
  refine lv_topi (fun x_226 ex_226 => ?_)
  obtain rfl : x_226 = 65536 := ex_226.trans (by decide)
  refine lv_sipush (v := 4129) hx hb dX8_init_286 (by decide) ?_
  refine lv_ixor hx hb dX8_init_289 ?_
  refine lv_topi (fun x_227 ex_227 => ?_)
  obtain rfl : x_227 = 69665 := ex_227.trans (by decide)
  refine lv_goto (tgt := 296) hx hb dX8_init_290 (by decide) ?_
  refine lv_istore_n (lv' := [(2, .int 69665), (3, .int 0), (1, .int 8), (0, .ref mo)]) hx hb dX8_init_296 rfl hl (by decide) rfl (fun ls hl => ?_)
  refine lv_iinc (v := 1) (lv' := [(3, .int 1), (2, .int 69665), (1, .int 8), (0, .ref mo)]) hx hb dX8_init_297 hl (k := 1) rfl (by decide) (by decide) rfl (fun ls hl => ?_)
  refine lv_goto (tgt := 271) hx hb dX8_init_300 (by decide) ?_
  refine lv_iload_n hx hb dX8_init_271 rfl (lv_at hl 0 rfl) ?_
  refine lv_iconst (v := 4) hx hb dX8_init_272 (by decide) ?_
  refine lv_icmp_ge (tgt := 303) hx hb dX8_init_273 (by decide) (fun c_228 => absurd c_228 (by decide)) (fun c_228 => ?_)
  refine lv_iload_n hx hb dX8_init_276 rfl (lv_at hl 1 rfl) ?_
  refine lv_ldc (v := 32768) hx hb hown (hts (.constant RX8 130 (32768)) (by decide +kernel)) dX8_init_277 ?_
  refine lv_iand hx hb dX8_init_279 ?_
  refine lv_topi (fun x_229 ex_229 => ?_)
  obtain rfl : x_229 = 0 := ex_229.trans (by decide)
  refine lv_if_eq (tgt := 293) hx hb dX8_init_280 (by decide) (fun c_230 => ?_) (fun c_230 => absurd (by decide) c_230)
  refine lv_iload_n hx hb dX8_init_293 rfl (lv_at hl 1 rfl) ?_
  refine lv_iconst (v := 1) hx hb dX8_init_294 (by decide) ?_
  refine lv_ishl hx hb dX8_init_295 ?_
  refine lv_topi (fun x_231 ex_231 => ?_)
  obtain rfl : x_231 = 139330 := ex_231.trans (by decide)
  refine lv_istore_n (lv' := [(2, .int 139330), (3, .int 1), (1, .int 8), (0, .ref mo)]) hx hb dX8_init_296 rfl hl (by decide) rfl (fun ls hl => ?_)
  refine lv_iinc (v := 2) (lv' := [(3, .int 2), (2, .int 139330), (1, .int 8), (0, .ref mo)]) hx hb dX8_init_297 hl (k := 1) rfl (by decide) (by decide) rfl (fun ls hl => ?_)
  refine lv_goto (tgt := 271) hx hb dX8_init_300 (by decide) ?_
  refine lv_iload_n hx hb dX8_init_271 rfl (lv_at hl 0 rfl) ?_
  refine lv_iconst (v := 4) hx hb dX8_init_272 (by decide) ?_
  refine lv_icmp_ge (tgt := 303) hx hb dX8_init_273 (by decide) (fun c_232 => absurd c_232 (by decide)) (fun c_232 => ?_)
  refine lv_iload_n hx hb dX8_init_276 rfl (lv_at hl 1 rfl) ?_
  refine lv_ldc (v := 32768) hx hb hown (hts (.constant RX8 130 (32768)) (by decide +kernel)) dX8_init_277 ?_
  refine lv_iand hx hb dX8_init_279 ?_
  refine lv_topi (fun x_233 ex_233 => ?_)
  obtain rfl : x_233 = 0 := ex_233.trans (by decide)
  refine lv_if_eq (tgt := 293) hx hb dX8_init_280 (by decide) (fun c_234 => ?_) (fun c_234 => absurd (by decide) c_234)
  refine lv_iload_n hx hb dX8_init_293 rfl (lv_at hl 1 rfl) ?_
  refine lv_iconst (v := 1) hx hb dX8_init_294 (by decide) ?_
  refine lv_ishl hx hb dX8_init_295 ?_
  refine lv_topi (fun x_235 ex_235 => ?_)
  obtain rfl : x_235 = 278660 := ex_235.trans (by decide)
  refine lv_istore_n (lv' := [(2, .int 278660), (3, .int 2), (1, .int 8), (0, .ref mo)]) hx hb dX8_init_296 rfl hl (by decide) rfl (fun ls hl => ?_)
  refine lv_iinc (v := 3) (lv' := [(3, .int 3), (2, .int 278660), (1, .int 8), (0, .ref mo)]) hx hb dX8_init_297 hl (k := 1) rfl (by decide) (by decide) rfl (fun ls hl => ?_)
  refine lv_goto (tgt := 271) hx hb dX8_init_300 (by decide) ?_
  refine lv_iload_n hx hb dX8_init_271 rfl (lv_at hl 0 rfl) ?_
  refine lv_iconst (v := 4) hx hb dX8_init_272 (by decide) ?_
  refine lv_icmp_ge (tgt := 303) hx hb dX8_init_273 (by decide) (fun c_236 => absurd c_236 (by decide)) (fun c_236 => ?_)
  refine lv_iload_n hx hb dX8_init_276 rfl (lv_at hl 1 rfl) ?_
  refine lv_ldc (v := 32768) hx hb hown (hts (.constant RX8 130 (32768)) (by decide +kernel)) dX8_init_277 ?_
  refine lv_iand hx hb dX8_init_279 ?_
  refine lv_topi (fun x_237 ex_237 => ?_)
  obtain rfl : x_237 = 0 := ex_237.trans (by decide)
  refine lv_if_eq (tgt := 293) hx hb dX8_init_280 (by decide) (fun c_238 => ?_) (fun c_238 => absurd (by decide) c_238)
  refine lv_iload_n hx hb dX8_init_293 rfl (lv_at hl 1 rfl) ?_
  refine lv_iconst (v := 1) hx hb dX8_init_294 (by decide) ?_
  refine lv_ishl hx hb dX8_init_295 ?_
  refine lv_topi (fun x_239 ex_239 => ?_)
  obtain rfl : x_239 = 557320 := ex_239.trans (by decide)
  refine lv_istore_n (lv' := [(2, .int 557320), (3, .int 3), (1, .int 8), (0, .ref mo)]) hx hb dX8_init_296 rfl hl (by decide) rfl (fun ls hl => ?_)
  refine lv_iinc (v := 4) (lv' := [(3, .int 4), (2, .int 557320), (1, .int 8), (0, .ref mo)]) hx hb dX8_init_297 hl (k := 1) rfl (by decide) (by decide) rfl (fun ls hl => ?_)
  refine lv_goto (tgt := 271) hx hb dX8_init_300 (by decide) ?_
  refine lv_iload_n hx hb dX8_init_271 rfl (lv_at hl 0 rfl) ?_
  refine lv_iconst (v := 4) hx hb dX8_init_272 (by decide) ?_
  refine lv_icmp_ge (tgt := 303) hx hb dX8_init_273 (by decide) (fun c_240 => ?_) (fun c_240 => absurd (by decide) c_240)
  refine lv_aload_n hx hb dX8_init_303 rfl (lv_at hl 3 rfl) ?_
  refine va_get (D := (dC, dI)) (ci := 6) (v := .ref q_1) (C := RX8) (T := TX8) (N := 39) hx hb hts iX8 hown hK hP 0 rfl rfl 1 (by decide) (hts (.fieldLink RX8 13 "BatchTransferModel" "nibbles" "[I") (by decide +kernel)) (fun _ h9 => h9) rfl dX8_init_304 ?_
  refine lv_iload_n hx hb dX8_init_307 rfl (lv_at hl 2 rfl) ?_
  refine lv_iload_n hx hb dX8_init_308 rfl (lv_at hl 1 rfl) ?_
  refine lv_ldc (v := 65535) hx hb hown (hts (.constant RX8 131 (65535)) (by decide +kernel)) dX8_init_309 ?_
  refine lv_iand hx hb dX8_init_311 ?_
  refine lv_topi (fun x_241 ex_241 => ?_)
  obtain rfl : x_241 = 33032 := ex_241.trans (by decide)
  have h_242 : vp_in (8) 16 := by unfold vp_in; decide +kernel
  refine va_iast hx hb hK hP hD hS 1 0 rfl rfl h_242 dX8_init_312 (fun H locs hP hD hS => ?_)
  obtain ⟨f_243, ef_243⟩ : ∃ g : Nat → Int32, g = upd f_220 (8 : Int32).toNatClampNeg 33032 := ⟨_, rfl⟩
  have hP : va_P (dC, dI) vwCl [(mo, .inr (6, [.int 0, .ref q_1, .ref q_3, .int 0, .int 0, .ref q_5, .ref q_7, .ref q_9, .ref q_11, .int 0, .ref q_13, .ref q_15, .ref q_17, .ref q_19, .ref q_21, .int 0, .int 0, .int 0, .ref q_23, .int 0, .int 0, .int 0, .int 0, .int 0, .int 0, .int 0, .int 0, .int 0, .int 0, .int 0, .int 0, .int 0, .int 0, .int 0, .ref q_25, .ref q_27, .ref q_29, .ref q_31, .int 0])), (q_1, .inl (cA_2, 16, .inl f_243)), (q_3, .inl (cA_4, 3100, .inl (fun _ => 0))), (q_5, .inl (cA_6, 96, .inl (fun _ => 0))), (q_7, .inl (cA_8, 8, .inl (fun _ => 0))), (q_9, .inl (cA_10, 24000, .inl (fun _ => 0))), (q_11, .inl (cA_12, 8, .inl (fun _ => 0))), (q_13, .inl (cA_14, 300, .inl (fun _ => 0))), (q_15, .inl (cA_16, 300, .inl (fun _ => 0))), (q_17, .inl (cA_18, 300, .inl (fun _ => 0))), (q_19, .inl (cA_20, 300, .inl (fun _ => 0))), (q_21, .inl (cA_22, 300, .inl (fun _ => 0))), (q_23, .inl (cA_24, 1040, .inl (fun _ => 0))), (q_25, .inl (cA_26, 96, .inl (fun _ => 0))), (q_27, .inl (cA_28, 8, .inl (fun _ => 0))), (q_29, .inl (cA_30, 28000, .inl (fun _ => 0))), (q_31, .inl (cA_32, 8, .inl (fun _ => 0)))] H := by rw [ef_243]; exact hP
  have hD : va_D A [(mo, .inr (6, [.int 0, .ref q_1, .ref q_3, .int 0, .int 0, .ref q_5, .ref q_7, .ref q_9, .ref q_11, .int 0, .ref q_13, .ref q_15, .ref q_17, .ref q_19, .ref q_21, .int 0, .int 0, .int 0, .ref q_23, .int 0, .int 0, .int 0, .int 0, .int 0, .int 0, .int 0, .int 0, .int 0, .int 0, .int 0, .int 0, .int 0, .int 0, .int 0, .ref q_25, .ref q_27, .ref q_29, .ref q_31, .int 0])), (q_1, .inl (cA_2, 16, .inl f_243)), (q_3, .inl (cA_4, 3100, .inl (fun _ => 0))), (q_5, .inl (cA_6, 96, .inl (fun _ => 0))), (q_7, .inl (cA_8, 8, .inl (fun _ => 0))), (q_9, .inl (cA_10, 24000, .inl (fun _ => 0))), (q_11, .inl (cA_12, 8, .inl (fun _ => 0))), (q_13, .inl (cA_14, 300, .inl (fun _ => 0))), (q_15, .inl (cA_16, 300, .inl (fun _ => 0))), (q_17, .inl (cA_18, 300, .inl (fun _ => 0))), (q_19, .inl (cA_20, 300, .inl (fun _ => 0))), (q_21, .inl (cA_22, 300, .inl (fun _ => 0))), (q_23, .inl (cA_24, 1040, .inl (fun _ => 0))), (q_25, .inl (cA_26, 96, .inl (fun _ => 0))), (q_27, .inl (cA_28, 8, .inl (fun _ => 0))), (q_29, .inl (cA_30, 28000, .inl (fun _ => 0))), (q_31, .inl (cA_32, 8, .inl (fun _ => 0)))] := by rw [ef_243]; exact hD
  refine lv_iinc (v := 9) (lv' := [(1, .int 9), (3, .int 4), (2, .int 557320), (0, .ref mo)]) hx hb dX8_init_313 hl (k := 2) rfl (by decide) (by decide) rfl (fun ls hl => ?_)
  refine lv_goto (tgt := 258) hx hb dX8_init_316 (by decide) ?_
  refine lv_iload_n hx hb dX8_init_258 rfl (lv_at hl 0 rfl) ?_
  refine lv_bipush (v := 16) hx hb dX8_init_259 (by decide) ?_
  refine lv_icmp_ge (tgt := 319) hx hb dX8_init_261 (by decide) (fun c_244 => absurd c_244 (by decide)) (fun c_244 => ?_)
  refine lv_iload_n hx hb dX8_init_264 rfl (lv_at hl 0 rfl) ?_
  refine lv_bipush (v := 12) hx hb dX8_init_265 (by decide) ?_
  refine lv_ishl hx hb dX8_init_267 ?_
  refine lv_topi (fun x_245 ex_245 => ?_)
  obtain rfl : x_245 = 36864 := ex_245.trans (by decide)
  refine lv_istore_n (lv' := [(2, .int 36864), (1, .int 9), (3, .int 4), (0, .ref mo)]) hx hb dX8_init_268 rfl hl (by decide) rfl (fun ls hl => ?_)
  refine lv_iconst (v := 0) hx hb dX8_init_269 (by decide) ?_
  refine lv_istore_n (lv' := [(3, .int 0), (2, .int 36864), (1, .int 9), (0, .ref mo)]) hx hb dX8_init_270 rfl hl (by decide) rfl (fun ls hl => ?_)
  refine lv_iload_n hx hb dX8_init_271 rfl (lv_at hl 0 rfl) ?_
  refine lv_iconst (v := 4) hx hb dX8_init_272 (by decide) ?_
  refine lv_icmp_ge (tgt := 303) hx hb dX8_init_273 (by decide) (fun c_246 => absurd c_246 (by decide)) (fun c_246 => ?_)
  refine lv_iload_n hx hb dX8_init_276 rfl (lv_at hl 1 rfl) ?_
  refine lv_ldc (v := 32768) hx hb hown (hts (.constant RX8 130 (32768)) (by decide +kernel)) dX8_init_277 ?_
  refine lv_iand hx hb dX8_init_279 ?_
  refine lv_topi (fun x_247 ex_247 => ?_)
  obtain rfl : x_247 = 32768 := ex_247.trans (by decide)
  refine lv_if_eq (tgt := 293) hx hb dX8_init_280 (by decide) (fun c_248 => absurd c_248 (by decide)) (fun c_248 => ?_)
  refine lv_iload_n hx hb dX8_init_283 rfl (lv_at hl 1 rfl) ?_
  refine lv_iconst (v := 1) hx hb dX8_init_284 (by decide) ?_
  refine lv_ishl hx hb dX8_init_285 ?_
  refine lv_topi (fun x_249 ex_249 => ?_)
  obtain rfl : x_249 = 73728 := ex_249.trans (by decide)
  refine lv_sipush (v := 4129) hx hb dX8_init_286 (by decide) ?_
  refine lv_ixor hx hb dX8_init_289 ?_
  refine lv_topi (fun x_250 ex_250 => ?_)
  obtain rfl : x_250 = 77857 := ex_250.trans (by decide)
  refine lv_goto (tgt := 296) hx hb dX8_init_290 (by decide) ?_
  refine lv_istore_n (lv' := [(2, .int 77857), (3, .int 0), (1, .int 9), (0, .ref mo)]) hx hb dX8_init_296 rfl hl (by decide) rfl (fun ls hl => ?_)
  refine lv_iinc (v := 1) (lv' := [(3, .int 1), (2, .int 77857), (1, .int 9), (0, .ref mo)]) hx hb dX8_init_297 hl (k := 1) rfl (by decide) (by decide) rfl (fun ls hl => ?_)
  refine lv_goto (tgt := 271) hx hb dX8_init_300 (by decide) ?_
  refine lv_iload_n hx hb dX8_init_271 rfl (lv_at hl 0 rfl) ?_
  refine lv_iconst (v := 4) hx hb dX8_init_272 (by decide) ?_
  refine lv_icmp_ge (tgt := 303) hx hb dX8_init_273 (by decide) (fun c_251 => absurd c_251 (by decide)) (fun c_251 => ?_)
  refine lv_iload_n hx hb dX8_init_276 rfl (lv_at hl 1 rfl) ?_
  refine lv_ldc (v := 32768) hx hb hown (hts (.constant RX8 130 (32768)) (by decide +kernel)) dX8_init_277 ?_
  refine lv_iand hx hb dX8_init_279 ?_
  refine lv_topi (fun x_252 ex_252 => ?_)
  obtain rfl : x_252 = 0 := ex_252.trans (by decide)
  refine lv_if_eq (tgt := 293) hx hb dX8_init_280 (by decide) (fun c_253 => ?_) (fun c_253 => absurd (by decide) c_253)
  refine lv_iload_n hx hb dX8_init_293 rfl (lv_at hl 1 rfl) ?_
  refine lv_iconst (v := 1) hx hb dX8_init_294 (by decide) ?_
  refine lv_ishl hx hb dX8_init_295 ?_
  refine lv_topi (fun x_254 ex_254 => ?_)
  obtain rfl : x_254 = 155714 := ex_254.trans (by decide)
  refine lv_istore_n (lv' := [(2, .int 155714), (3, .int 1), (1, .int 9), (0, .ref mo)]) hx hb dX8_init_296 rfl hl (by decide) rfl (fun ls hl => ?_)
  refine lv_iinc (v := 2) (lv' := [(3, .int 2), (2, .int 155714), (1, .int 9), (0, .ref mo)]) hx hb dX8_init_297 hl (k := 1) rfl (by decide) (by decide) rfl (fun ls hl => ?_)
  refine lv_goto (tgt := 271) hx hb dX8_init_300 (by decide) ?_
  refine lv_iload_n hx hb dX8_init_271 rfl (lv_at hl 0 rfl) ?_
  refine lv_iconst (v := 4) hx hb dX8_init_272 (by decide) ?_
  refine lv_icmp_ge (tgt := 303) hx hb dX8_init_273 (by decide) (fun c_255 => absurd c_255 (by decide)) (fun c_255 => ?_)
  refine lv_iload_n hx hb dX8_init_276 rfl (lv_at hl 1 rfl) ?_
  refine lv_ldc (v := 32768) hx hb hown (hts (.constant RX8 130 (32768)) (by decide +kernel)) dX8_init_277 ?_
  refine lv_iand hx hb dX8_init_279 ?_
  refine lv_topi (fun x_256 ex_256 => ?_)
  obtain rfl : x_256 = 0 := ex_256.trans (by decide)
  refine lv_if_eq (tgt := 293) hx hb dX8_init_280 (by decide) (fun c_257 => ?_) (fun c_257 => absurd (by decide) c_257)
  refine lv_iload_n hx hb dX8_init_293 rfl (lv_at hl 1 rfl) ?_
  refine lv_iconst (v := 1) hx hb dX8_init_294 (by decide) ?_
  refine lv_ishl hx hb dX8_init_295 ?_
  refine lv_topi (fun x_258 ex_258 => ?_)
  obtain rfl : x_258 = 311428 := ex_258.trans (by decide)
  refine lv_istore_n (lv' := [(2, .int 311428), (3, .int 2), (1, .int 9), (0, .ref mo)]) hx hb dX8_init_296 rfl hl (by decide) rfl (fun ls hl => ?_)
  refine lv_iinc (v := 3) (lv' := [(3, .int 3), (2, .int 311428), (1, .int 9), (0, .ref mo)]) hx hb dX8_init_297 hl (k := 1) rfl (by decide) (by decide) rfl (fun ls hl => ?_)
  refine lv_goto (tgt := 271) hx hb dX8_init_300 (by decide) ?_
  refine lv_iload_n hx hb dX8_init_271 rfl (lv_at hl 0 rfl) ?_
  refine lv_iconst (v := 4) hx hb dX8_init_272 (by decide) ?_
  refine lv_icmp_ge (tgt := 303) hx hb dX8_init_273 (by decide) (fun c_259 => absurd c_259 (by decide)) (fun c_259 => ?_)
  refine lv_iload_n hx hb dX8_init_276 rfl (lv_at hl 1 rfl) ?_
  refine lv_ldc (v := 32768) hx hb hown (hts (.constant RX8 130 (32768)) (by decide +kernel)) dX8_init_277 ?_
  refine lv_iand hx hb dX8_init_279 ?_
  refine lv_topi (fun x_260 ex_260 => ?_)
  obtain rfl : x_260 = 32768 := ex_260.trans (by decide)
  refine lv_if_eq (tgt := 293) hx hb dX8_init_280 (by decide) (fun c_261 => absurd c_261 (by decide)) (fun c_261 => ?_)
  refine lv_iload_n hx hb dX8_init_283 rfl (lv_at hl 1 rfl) ?_
  refine lv_iconst (v := 1) hx hb dX8_init_284 (by decide) ?_
  refine lv_ishl hx hb dX8_init_285 ?_
  refine lv_topi (fun x_262 ex_262 => ?_)
  obtain rfl : x_262 = 622856 := ex_262.trans (by decide)
  refine lv_sipush (v := 4129) hx hb dX8_init_286 (by decide) ?_
  refine lv_ixor hx hb dX8_init_289 ?_
  refine lv_topi (fun x_263 ex_263 => ?_)
  obtain rfl : x_263 = 626985 := ex_263.trans (by decide)
  refine lv_goto (tgt := 296) hx hb dX8_init_290 (by decide) ?_
  refine lv_istore_n (lv' := [(2, .int 626985), (3, .int 3), (1, .int 9), (0, .ref mo)]) hx hb dX8_init_296 rfl hl (by decide) rfl (fun ls hl => ?_)
  refine lv_iinc (v := 4) (lv' := [(3, .int 4), (2, .int 626985), (1, .int 9), (0, .ref mo)]) hx hb dX8_init_297 hl (k := 1) rfl (by decide) (by decide) rfl (fun ls hl => ?_)
  refine lv_goto (tgt := 271) hx hb dX8_init_300 (by decide) ?_
  refine lv_iload_n hx hb dX8_init_271 rfl (lv_at hl 0 rfl) ?_
  refine lv_iconst (v := 4) hx hb dX8_init_272 (by decide) ?_
  refine lv_icmp_ge (tgt := 303) hx hb dX8_init_273 (by decide) (fun c_264 => ?_) (fun c_264 => absurd (by decide) c_264)
  refine lv_aload_n hx hb dX8_init_303 rfl (lv_at hl 3 rfl) ?_
  refine va_get (D := (dC, dI)) (ci := 6) (v := .ref q_1) (C := RX8) (T := TX8) (N := 39) hx hb hts iX8 hown hK hP 0 rfl rfl 1 (by decide) (hts (.fieldLink RX8 13 "BatchTransferModel" "nibbles" "[I") (by decide +kernel)) (fun _ h9 => h9) rfl dX8_init_304 ?_
  refine lv_iload_n hx hb dX8_init_307 rfl (lv_at hl 2 rfl) ?_
  refine lv_iload_n hx hb dX8_init_308 rfl (lv_at hl 1 rfl) ?_
  refine lv_ldc (v := 65535) hx hb hown (hts (.constant RX8 131 (65535)) (by decide +kernel)) dX8_init_309 ?_
  refine lv_iand hx hb dX8_init_311 ?_
  refine lv_topi (fun x_265 ex_265 => ?_)
  obtain rfl : x_265 = 37161 := ex_265.trans (by decide)
  have h_266 : vp_in (9) 16 := by unfold vp_in; decide +kernel
  refine va_iast hx hb hK hP hD hS 1 0 rfl rfl h_266 dX8_init_312 (fun H locs hP hD hS => ?_)
  obtain ⟨f_267, ef_267⟩ : ∃ g : Nat → Int32, g = upd f_243 (9 : Int32).toNatClampNeg 37161 := ⟨_, rfl⟩
  have hP : va_P (dC, dI) vwCl [(mo, .inr (6, [.int 0, .ref q_1, .ref q_3, .int 0, .int 0, .ref q_5, .ref q_7, .ref q_9, .ref q_11, .int 0, .ref q_13, .ref q_15, .ref q_17, .ref q_19, .ref q_21, .int 0, .int 0, .int 0, .ref q_23, .int 0, .int 0, .int 0, .int 0, .int 0, .int 0, .int 0, .int 0, .int 0, .int 0, .int 0, .int 0, .int 0, .int 0, .int 0, .ref q_25, .ref q_27, .ref q_29, .ref q_31, .int 0])), (q_1, .inl (cA_2, 16, .inl f_267)), (q_3, .inl (cA_4, 3100, .inl (fun _ => 0))), (q_5, .inl (cA_6, 96, .inl (fun _ => 0))), (q_7, .inl (cA_8, 8, .inl (fun _ => 0))), (q_9, .inl (cA_10, 24000, .inl (fun _ => 0))), (q_11, .inl (cA_12, 8, .inl (fun _ => 0))), (q_13, .inl (cA_14, 300, .inl (fun _ => 0))), (q_15, .inl (cA_16, 300, .inl (fun _ => 0))), (q_17, .inl (cA_18, 300, .inl (fun _ => 0))), (q_19, .inl (cA_20, 300, .inl (fun _ => 0))), (q_21, .inl (cA_22, 300, .inl (fun _ => 0))), (q_23, .inl (cA_24, 1040, .inl (fun _ => 0))), (q_25, .inl (cA_26, 96, .inl (fun _ => 0))), (q_27, .inl (cA_28, 8, .inl (fun _ => 0))), (q_29, .inl (cA_30, 28000, .inl (fun _ => 0))), (q_31, .inl (cA_32, 8, .inl (fun _ => 0)))] H := by rw [ef_267]; exact hP
  have hD : va_D A [(mo, .inr (6, [.int 0, .ref q_1, .ref q_3, .int 0, .int 0, .ref q_5, .ref q_7, .ref q_9, .ref q_11, .int 0, .ref q_13, .ref q_15, .ref q_17, .ref q_19, .ref q_21, .int 0, .int 0, .int 0, .ref q_23, .int 0, .int 0, .int 0, .int 0, .int 0, .int 0, .int 0, .int 0, .int 0, .int 0, .int 0, .int 0, .int 0, .int 0, .int 0, .ref q_25, .ref q_27, .ref q_29, .ref q_31, .int 0])), (q_1, .inl (cA_2, 16, .inl f_267)), (q_3, .inl (cA_4, 3100, .inl (fun _ => 0))), (q_5, .inl (cA_6, 96, .inl (fun _ => 0))), (q_7, .inl (cA_8, 8, .inl (fun _ => 0))), (q_9, .inl (cA_10, 24000, .inl (fun _ => 0))), (q_11, .inl (cA_12, 8, .inl (fun _ => 0))), (q_13, .inl (cA_14, 300, .inl (fun _ => 0))), (q_15, .inl (cA_16, 300, .inl (fun _ => 0))), (q_17, .inl (cA_18, 300, .inl (fun _ => 0))), (q_19, .inl (cA_20, 300, .inl (fun _ => 0))), (q_21, .inl (cA_22, 300, .inl (fun _ => 0))), (q_23, .inl (cA_24, 1040, .inl (fun _ => 0))), (q_25, .inl (cA_26, 96, .inl (fun _ => 0))), (q_27, .inl (cA_28, 8, .inl (fun _ => 0))), (q_29, .inl (cA_30, 28000, .inl (fun _ => 0))), (q_31, .inl (cA_32, 8, .inl (fun _ => 0)))] := by rw [ef_267]; exact hD
  refine lv_iinc (v := 10) (lv' := [(1, .int 10), (3, .int 4), (2, .int 626985), (0, .ref mo)]) hx hb dX8_init_313 hl (k := 2) rfl (by decide) (by decide) rfl (fun ls hl => ?_)
  refine lv_goto (tgt := 258) hx hb dX8_init_316 (by decide) ?_
  refine lv_iload_n hx hb dX8_init_258 rfl (lv_at hl 0 rfl) ?_
  refine lv_bipush (v := 16) hx hb dX8_init_259 (by decide) ?_
  refine lv_icmp_ge (tgt := 319) hx hb dX8_init_261 (by decide) (fun c_268 => absurd c_268 (by decide)) (fun c_268 => ?_)
  refine lv_iload_n hx hb dX8_init_264 rfl (lv_at hl 0 rfl) ?_
  refine lv_bipush (v := 12) hx hb dX8_init_265 (by decide) ?_
  refine lv_ishl hx hb dX8_init_267 ?_
  refine lv_topi (fun x_269 ex_269 => ?_)
  obtain rfl : x_269 = 40960 := ex_269.trans (by decide)
  refine lv_istore_n (lv' := [(2, .int 40960), (1, .int 10), (3, .int 4), (0, .ref mo)]) hx hb dX8_init_268 rfl hl (by decide) rfl (fun ls hl => ?_)
  refine lv_iconst (v := 0) hx hb dX8_init_269 (by decide) ?_
  refine lv_istore_n (lv' := [(3, .int 0), (2, .int 40960), (1, .int 10), (0, .ref mo)]) hx hb dX8_init_270 rfl hl (by decide) rfl (fun ls hl => ?_)
  refine lv_iload_n hx hb dX8_init_271 rfl (lv_at hl 0 rfl) ?_
  refine lv_iconst (v := 4) hx hb dX8_init_272 (by decide) ?_
  refine lv_icmp_ge (tgt := 303) hx hb dX8_init_273 (by decide) (fun c_270 => absurd c_270 (by decide)) (fun c_270 => ?_)
  refine lv_iload_n hx hb dX8_init_276 rfl (lv_at hl 1 rfl) ?_
  refine lv_ldc (v := 32768) hx hb hown (hts (.constant RX8 130 (32768)) (by decide +kernel)) dX8_init_277 ?_
  refine lv_iand hx hb dX8_init_279 ?_
  refine lv_topi (fun x_271 ex_271 => ?_)
  obtain rfl : x_271 = 32768 := ex_271.trans (by decide)
  refine lv_if_eq (tgt := 293) hx hb dX8_init_280 (by decide) (fun c_272 => absurd c_272 (by decide)) (fun c_272 => ?_)
  refine lv_iload_n hx hb dX8_init_283 rfl (lv_at hl 1 rfl) ?_
  refine lv_iconst (v := 1) hx hb dX8_init_284 (by decide) ?_
  refine lv_ishl hx hb dX8_init_285 ?_
  refine lv_topi (fun x_273 ex_273 => ?_)
  obtain rfl : x_273 = 81920 := ex_273.trans (by decide)
  refine lv_sipush (v := 4129) hx hb dX8_init_286 (by decide) ?_
  refine lv_ixor hx hb dX8_init_289 ?_
  refine lv_topi (fun x_274 ex_274 => ?_)
  obtain rfl : x_274 = 86049 := ex_274.trans (by decide)
  refine lv_goto (tgt := 296) hx hb dX8_init_290 (by decide) ?_
  refine lv_istore_n (lv' := [(2, .int 86049), (3, .int 0), (1, .int 10), (0, .ref mo)]) hx hb dX8_init_296 rfl hl (by decide) rfl (fun ls hl => ?_)
  refine lv_iinc (v := 1) (lv' := [(3, .int 1), (2, .int 86049), (1, .int 10), (0, .ref mo)]) hx hb dX8_init_297 hl (k := 1) rfl (by decide) (by decide) rfl (fun ls hl => ?_)
  refine lv_goto (tgt := 271) hx hb dX8_init_300 (by decide) ?_
  refine lv_iload_n hx hb dX8_init_271 rfl (lv_at hl 0 rfl) ?_
  refine lv_iconst (v := 4) hx hb dX8_init_272 (by decide) ?_
  refine lv_icmp_ge (tgt := 303) hx hb dX8_init_273 (by decide) (fun c_275 => absurd c_275 (by decide)) (fun c_275 => ?_)
  refine lv_iload_n hx hb dX8_init_276 rfl (lv_at hl 1 rfl) ?_
  refine lv_ldc (v := 32768) hx hb hown (hts (.constant RX8 130 (32768)) (by decide +kernel)) dX8_init_277 ?_
  refine lv_iand hx hb dX8_init_279 ?_
  refine lv_topi (fun x_276 ex_276 => ?_)
  obtain rfl : x_276 = 0 := ex_276.trans (by decide)
  refine lv_if_eq (tgt := 293) hx hb dX8_init_280 (by decide) (fun c_277 => ?_) (fun c_277 => absurd (by decide) c_277)
  refine lv_iload_n hx hb dX8_init_293 rfl (lv_at hl 1 rfl) ?_
  refine lv_iconst (v := 1) hx hb dX8_init_294 (by decide) ?_
  refine lv_ishl hx hb dX8_init_295 ?_
  refine lv_topi (fun x_278 ex_278 => ?_)
  obtain rfl : x_278 = 172098 := ex_278.trans (by decide)
  refine lv_istore_n (lv' := [(2, .int 172098), (3, .int 1), (1, .int 10), (0, .ref mo)]) hx hb dX8_init_296 rfl hl (by decide) rfl (fun ls hl => ?_)
  refine lv_iinc (v := 2) (lv' := [(3, .int 2), (2, .int 172098), (1, .int 10), (0, .ref mo)]) hx hb dX8_init_297 hl (k := 1) rfl (by decide) (by decide) rfl (fun ls hl => ?_)
  refine lv_goto (tgt := 271) hx hb dX8_init_300 (by decide) ?_
  refine lv_iload_n hx hb dX8_init_271 rfl (lv_at hl 0 rfl) ?_
  refine lv_iconst (v := 4) hx hb dX8_init_272 (by decide) ?_
  refine lv_icmp_ge (tgt := 303) hx hb dX8_init_273 (by decide) (fun c_279 => absurd c_279 (by decide)) (fun c_279 => ?_)
  refine lv_iload_n hx hb dX8_init_276 rfl (lv_at hl 1 rfl) ?_
  refine lv_ldc (v := 32768) hx hb hown (hts (.constant RX8 130 (32768)) (by decide +kernel)) dX8_init_277 ?_
  refine lv_iand hx hb dX8_init_279 ?_
  refine lv_topi (fun x_280 ex_280 => ?_)
  obtain rfl : x_280 = 32768 := ex_280.trans (by decide)
  refine lv_if_eq (tgt := 293) hx hb dX8_init_280 (by decide) (fun c_281 => absurd c_281 (by decide)) (fun c_281 => ?_)
  refine lv_iload_n hx hb dX8_init_283 rfl (lv_at hl 1 rfl) ?_
  refine lv_iconst (v := 1) hx hb dX8_init_284 (by decide) ?_
  refine lv_ishl hx hb dX8_init_285 ?_
  refine lv_topi (fun x_282 ex_282 => ?_)
  obtain rfl : x_282 = 344196 := ex_282.trans (by decide)
  refine lv_sipush (v := 4129) hx hb dX8_init_286 (by decide) ?_
  refine lv_ixor hx hb dX8_init_289 ?_
  refine lv_topi (fun x_283 ex_283 => ?_)
  obtain rfl : x_283 = 348325 := ex_283.trans (by decide)
  refine lv_goto (tgt := 296) hx hb dX8_init_290 (by decide) ?_
  refine lv_istore_n (lv' := [(2, .int 348325), (3, .int 2), (1, .int 10), (0, .ref mo)]) hx hb dX8_init_296 rfl hl (by decide) rfl (fun ls hl => ?_)
  refine lv_iinc (v := 3) (lv' := [(3, .int 3), (2, .int 348325), (1, .int 10), (0, .ref mo)]) hx hb dX8_init_297 hl (k := 1) rfl (by decide) (by decide) rfl (fun ls hl => ?_)
  refine lv_goto (tgt := 271) hx hb dX8_init_300 (by decide) ?_
  refine lv_iload_n hx hb dX8_init_271 rfl (lv_at hl 0 rfl) ?_
  refine lv_iconst (v := 4) hx hb dX8_init_272 (by decide) ?_
  refine lv_icmp_ge (tgt := 303) hx hb dX8_init_273 (by decide) (fun c_284 => absurd c_284 (by decide)) (fun c_284 => ?_)
  refine lv_iload_n hx hb dX8_init_276 rfl (lv_at hl 1 rfl) ?_
  refine lv_ldc (v := 32768) hx hb hown (hts (.constant RX8 130 (32768)) (by decide +kernel)) dX8_init_277 ?_
  refine lv_iand hx hb dX8_init_279 ?_
  refine lv_topi (fun x_285 ex_285 => ?_)
  obtain rfl : x_285 = 0 := ex_285.trans (by decide)
  refine lv_if_eq (tgt := 293) hx hb dX8_init_280 (by decide) (fun c_286 => ?_) (fun c_286 => absurd (by decide) c_286)
  refine lv_iload_n hx hb dX8_init_293 rfl (lv_at hl 1 rfl) ?_
  refine lv_iconst (v := 1) hx hb dX8_init_294 (by decide) ?_
  refine lv_ishl hx hb dX8_init_295 ?_
  refine lv_topi (fun x_287 ex_287 => ?_)
  obtain rfl : x_287 = 696650 := ex_287.trans (by decide)
  refine lv_istore_n (lv' := [(2, .int 696650), (3, .int 3), (1, .int 10), (0, .ref mo)]) hx hb dX8_init_296 rfl hl (by decide) rfl (fun ls hl => ?_)
  refine lv_iinc (v := 4) (lv' := [(3, .int 4), (2, .int 696650), (1, .int 10), (0, .ref mo)]) hx hb dX8_init_297 hl (k := 1) rfl (by decide) (by decide) rfl (fun ls hl => ?_)
  refine lv_goto (tgt := 271) hx hb dX8_init_300 (by decide) ?_
  refine lv_iload_n hx hb dX8_init_271 rfl (lv_at hl 0 rfl) ?_
  refine lv_iconst (v := 4) hx hb dX8_init_272 (by decide) ?_
  refine lv_icmp_ge (tgt := 303) hx hb dX8_init_273 (by decide) (fun c_288 => ?_) (fun c_288 => absurd (by decide) c_288)
  refine lv_aload_n hx hb dX8_init_303 rfl (lv_at hl 3 rfl) ?_
  refine va_get (D := (dC, dI)) (ci := 6) (v := .ref q_1) (C := RX8) (T := TX8) (N := 39) hx hb hts iX8 hown hK hP 0 rfl rfl 1 (by decide) (hts (.fieldLink RX8 13 "BatchTransferModel" "nibbles" "[I") (by decide +kernel)) (fun _ h9 => h9) rfl dX8_init_304 ?_
  refine lv_iload_n hx hb dX8_init_307 rfl (lv_at hl 2 rfl) ?_
  refine lv_iload_n hx hb dX8_init_308 rfl (lv_at hl 1 rfl) ?_
  refine lv_ldc (v := 65535) hx hb hown (hts (.constant RX8 131 (65535)) (by decide +kernel)) dX8_init_309 ?_
  refine lv_iand hx hb dX8_init_311 ?_
  refine lv_topi (fun x_289 ex_289 => ?_)
  obtain rfl : x_289 = 41290 := ex_289.trans (by decide)
  have h_290 : vp_in (10) 16 := by unfold vp_in; decide +kernel
  refine va_iast hx hb hK hP hD hS 1 0 rfl rfl h_290 dX8_init_312 (fun H locs hP hD hS => ?_)
  obtain ⟨f_291, ef_291⟩ : ∃ g : Nat → Int32, g = upd f_267 (10 : Int32).toNatClampNeg 41290 := ⟨_, rfl⟩
  have hP : va_P (dC, dI) vwCl [(mo, .inr (6, [.int 0, .ref q_1, .ref q_3, .int 0, .int 0, .ref q_5, .ref q_7, .ref q_9, .ref q_11, .int 0, .ref q_13, .ref q_15, .ref q_17, .ref q_19, .ref q_21, .int 0, .int 0, .int 0, .ref q_23, .int 0, .int 0, .int 0, .int 0, .int 0, .int 0, .int 0, .int 0, .int 0, .int 0, .int 0, .int 0, .int 0, .int 0, .int 0, .ref q_25, .ref q_27, .ref q_29, .ref q_31, .int 0])), (q_1, .inl (cA_2, 16, .inl f_291)), (q_3, .inl (cA_4, 3100, .inl (fun _ => 0))), (q_5, .inl (cA_6, 96, .inl (fun _ => 0))), (q_7, .inl (cA_8, 8, .inl (fun _ => 0))), (q_9, .inl (cA_10, 24000, .inl (fun _ => 0))), (q_11, .inl (cA_12, 8, .inl (fun _ => 0))), (q_13, .inl (cA_14, 300, .inl (fun _ => 0))), (q_15, .inl (cA_16, 300, .inl (fun _ => 0))), (q_17, .inl (cA_18, 300, .inl (fun _ => 0))), (q_19, .inl (cA_20, 300, .inl (fun _ => 0))), (q_21, .inl (cA_22, 300, .inl (fun _ => 0))), (q_23, .inl (cA_24, 1040, .inl (fun _ => 0))), (q_25, .inl (cA_26, 96, .inl (fun _ => 0))), (q_27, .inl (cA_28, 8, .inl (fun _ => 0))), (q_29, .inl (cA_30, 28000, .inl (fun _ => 0))), (q_31, .inl (cA_32, 8, .inl (fun _ => 0)))] H := by rw [ef_291]; exact hP
  have hD : va_D A [(mo, .inr (6, [.int 0, .ref q_1, .ref q_3, .int 0, .int 0, .ref q_5, .ref q_7, .ref q_9, .ref q_11, .int 0, .ref q_13, .ref q_15, .ref q_17, .ref q_19, .ref q_21, .int 0, .int 0, .int 0, .ref q_23, .int 0, .int 0, .int 0, .int 0, .int 0, .int 0, .int 0, .int 0, .int 0, .int 0, .int 0, .int 0, .int 0, .int 0, .int 0, .ref q_25, .ref q_27, .ref q_29, .ref q_31, .int 0])), (q_1, .inl (cA_2, 16, .inl f_291)), (q_3, .inl (cA_4, 3100, .inl (fun _ => 0))), (q_5, .inl (cA_6, 96, .inl (fun _ => 0))), (q_7, .inl (cA_8, 8, .inl (fun _ => 0))), (q_9, .inl (cA_10, 24000, .inl (fun _ => 0))), (q_11, .inl (cA_12, 8, .inl (fun _ => 0))), (q_13, .inl (cA_14, 300, .inl (fun _ => 0))), (q_15, .inl (cA_16, 300, .inl (fun _ => 0))), (q_17, .inl (cA_18, 300, .inl (fun _ => 0))), (q_19, .inl (cA_20, 300, .inl (fun _ => 0))), (q_21, .inl (cA_22, 300, .inl (fun _ => 0))), (q_23, .inl (cA_24, 1040, .inl (fun _ => 0))), (q_25, .inl (cA_26, 96, .inl (fun _ => 0))), (q_27, .inl (cA_28, 8, .inl (fun _ => 0))), (q_29, .inl (cA_30, 28000, .inl (fun _ => 0))), (q_31, .inl (cA_32, 8, .inl (fun _ => 0)))] := by rw [ef_291]; exact hD
  refine lv_iinc (v := 11) (lv' := [(1, .int 11), (3, .int 4), (2, .int 696650), (0, .ref mo)]) hx hb dX8_init_313 hl (k := 2) rfl (by decide) (by decide) rfl (fun ls hl => ?_)
  refine lv_goto (tgt := 258) hx hb dX8_init_316 (by decide) ?_
  refine lv_iload_n hx hb dX8_init_258 rfl (lv_at hl 0 rfl) ?_
  refine lv_bipush (v := 16) hx hb dX8_init_259 (by decide) ?_
  refine lv_icmp_ge (tgt := 319) hx hb dX8_init_261 (by decide) (fun c_292 => absurd c_292 (by decide)) (fun c_292 => ?_)
  refine lv_iload_n hx hb dX8_init_264 rfl (lv_at hl 0 rfl) ?_
  refine lv_bipush (v := 12) hx hb dX8_init_265 (by decide) ?_
  refine lv_ishl hx hb dX8_init_267 ?_
  refine lv_topi (fun x_293 ex_293 => ?_)
  obtain rfl : x_293 = 45056 := ex_293.trans (by decide)
  refine lv_istore_n (lv' := [(2, .int 45056), (1, .int 11), (3, .int 4), (0, .ref mo)]) hx hb dX8_init_268 rfl hl (by decide) rfl (fun ls hl => ?_)
  refine lv_iconst (v := 0) hx hb dX8_init_269 (by decide) ?_
  refine lv_istore_n (lv' := [(3, .int 0), (2, .int 45056), (1, .int 11), (0, .ref mo)]) hx hb dX8_init_270 rfl hl (by decide) rfl (fun ls hl => ?_)
  refine lv_iload_n hx hb dX8_init_271 rfl (lv_at hl 0 rfl) ?_
  refine lv_iconst (v := 4) hx hb dX8_init_272 (by decide) ?_
  refine lv_icmp_ge (tgt := 303) hx hb dX8_init_273 (by decide) (fun c_294 => absurd c_294 (by decide)) (fun c_294 => ?_)
  refine lv_iload_n hx hb dX8_init_276 rfl (lv_at hl 1 rfl) ?_
  refine lv_ldc (v := 32768) hx hb hown (hts (.constant RX8 130 (32768)) (by decide +kernel)) dX8_init_277 ?_
  refine lv_iand hx hb dX8_init_279 ?_
  refine lv_topi (fun x_295 ex_295 => ?_)
  obtain rfl : x_295 = 32768 := ex_295.trans (by decide)
  refine lv_if_eq (tgt := 293) hx hb dX8_init_280 (by decide) (fun c_296 => absurd c_296 (by decide)) (fun c_296 => ?_)
  refine lv_iload_n hx hb dX8_init_283 rfl (lv_at hl 1 rfl) ?_
  refine lv_iconst (v := 1) hx hb dX8_init_284 (by decide) ?_
  refine lv_ishl hx hb dX8_init_285 ?_
  refine lv_topi (fun x_297 ex_297 => ?_)
  obtain rfl : x_297 = 90112 := ex_297.trans (by decide)
  refine lv_sipush (v := 4129) hx hb dX8_init_286 (by decide) ?_
  refine lv_ixor hx hb dX8_init_289 ?_
  refine lv_topi (fun x_298 ex_298 => ?_)
  obtain rfl : x_298 = 94241 := ex_298.trans (by decide)
  refine lv_goto (tgt := 296) hx hb dX8_init_290 (by decide) ?_
  refine lv_istore_n (lv' := [(2, .int 94241), (3, .int 0), (1, .int 11), (0, .ref mo)]) hx hb dX8_init_296 rfl hl (by decide) rfl (fun ls hl => ?_)
  refine lv_iinc (v := 1) (lv' := [(3, .int 1), (2, .int 94241), (1, .int 11), (0, .ref mo)]) hx hb dX8_init_297 hl (k := 1) rfl (by decide) (by decide) rfl (fun ls hl => ?_)
  refine lv_goto (tgt := 271) hx hb dX8_init_300 (by decide) ?_
  refine lv_iload_n hx hb dX8_init_271 rfl (lv_at hl 0 rfl) ?_
  refine lv_iconst (v := 4) hx hb dX8_init_272 (by decide) ?_
  refine lv_icmp_ge (tgt := 303) hx hb dX8_init_273 (by decide) (fun c_299 => absurd c_299 (by decide)) (fun c_299 => ?_)
  refine lv_iload_n hx hb dX8_init_276 rfl (lv_at hl 1 rfl) ?_
  refine lv_ldc (v := 32768) hx hb hown (hts (.constant RX8 130 (32768)) (by decide +kernel)) dX8_init_277 ?_
  refine lv_iand hx hb dX8_init_279 ?_
  refine lv_topi (fun x_300 ex_300 => ?_)
  obtain rfl : x_300 = 0 := ex_300.trans (by decide)
  refine lv_if_eq (tgt := 293) hx hb dX8_init_280 (by decide) (fun c_301 => ?_) (fun c_301 => absurd (by decide) c_301)
  refine lv_iload_n hx hb dX8_init_293 rfl (lv_at hl 1 rfl) ?_
  refine lv_iconst (v := 1) hx hb dX8_init_294 (by decide) ?_
  refine lv_ishl hx hb dX8_init_295 ?_
  refine lv_topi (fun x_302 ex_302 => ?_)
  obtain rfl : x_302 = 188482 := ex_302.trans (by decide)
  refine lv_istore_n (lv' := [(2, .int 188482), (3, .int 1), (1, .int 11), (0, .ref mo)]) hx hb dX8_init_296 rfl hl (by decide) rfl (fun ls hl => ?_)
  refine lv_iinc (v := 2) (lv' := [(3, .int 2), (2, .int 188482), (1, .int 11), (0, .ref mo)]) hx hb dX8_init_297 hl (k := 1) rfl (by decide) (by decide) rfl (fun ls hl => ?_)
  refine lv_goto (tgt := 271) hx hb dX8_init_300 (by decide) ?_
  refine lv_iload_n hx hb dX8_init_271 rfl (lv_at hl 0 rfl) ?_
  refine lv_iconst (v := 4) hx hb dX8_init_272 (by decide) ?_
  refine lv_icmp_ge (tgt := 303) hx hb dX8_init_273 (by decide) (fun c_303 => absurd c_303 (by decide)) (fun c_303 => ?_)
  refine lv_iload_n hx hb dX8_init_276 rfl (lv_at hl 1 rfl) ?_
  refine lv_ldc (v := 32768) hx hb hown (hts (.constant RX8 130 (32768)) (by decide +kernel)) dX8_init_277 ?_
  refine lv_iand hx hb dX8_init_279 ?_
  refine lv_topi (fun x_304 ex_304 => ?_)
  obtain rfl : x_304 = 32768 := ex_304.trans (by decide)
  refine lv_if_eq (tgt := 293) hx hb dX8_init_280 (by decide) (fun c_305 => absurd c_305 (by decide)) (fun c_305 => ?_)
  refine lv_iload_n hx hb dX8_init_283 rfl (lv_at hl 1 rfl) ?_
  refine lv_iconst (v := 1) hx hb dX8_init_284 (by decide) ?_
  refine lv_ishl hx hb dX8_init_285 ?_
  refine lv_topi (fun x_306 ex_306 => ?_)
  obtain rfl : x_306 = 376964 := ex_306.trans (by decide)
  refine lv_sipush (v := 4129) hx hb dX8_init_286 (by decide) ?_
  refine lv_ixor hx hb dX8_init_289 ?_
  refine lv_topi (fun x_307 ex_307 => ?_)
  obtain rfl : x_307 = 381093 := ex_307.trans (by decide)
  refine lv_goto (tgt := 296) hx hb dX8_init_290 (by decide) ?_
  refine lv_istore_n (lv' := [(2, .int 381093), (3, .int 2), (1, .int 11), (0, .ref mo)]) hx hb dX8_init_296 rfl hl (by decide) rfl (fun ls hl => ?_)
  refine lv_iinc (v := 3) (lv' := [(3, .int 3), (2, .int 381093), (1, .int 11), (0, .ref mo)]) hx hb dX8_init_297 hl (k := 1) rfl (by decide) (by decide) rfl (fun ls hl => ?_)
  refine lv_goto (tgt := 271) hx hb dX8_init_300 (by decide) ?_
  refine lv_iload_n hx hb dX8_init_271 rfl (lv_at hl 0 rfl) ?_
  refine lv_iconst (v := 4) hx hb dX8_init_272 (by decide) ?_
  refine lv_icmp_ge (tgt := 303) hx hb dX8_init_273 (by decide) (fun c_308 => absurd c_308 (by decide)) (fun c_308 => ?_)
  refine lv_iload_n hx hb dX8_init_276 rfl (lv_at hl 1 rfl) ?_
  refine lv_ldc (v := 32768) hx hb hown (hts (.constant RX8 130 (32768)) (by decide +kernel)) dX8_init_277 ?_
  refine lv_iand hx hb dX8_init_279 ?_
  refine lv_topi (fun x_309 ex_309 => ?_)
  obtain rfl : x_309 = 32768 := ex_309.trans (by decide)
  refine lv_if_eq (tgt := 293) hx hb dX8_init_280 (by decide) (fun c_310 => absurd c_310 (by decide)) (fun c_310 => ?_)
  refine lv_iload_n hx hb dX8_init_283 rfl (lv_at hl 1 rfl) ?_
  refine lv_iconst (v := 1) hx hb dX8_init_284 (by decide) ?_
  refine lv_ishl hx hb dX8_init_285 ?_
  refine lv_topi (fun x_311 ex_311 => ?_)
  obtain rfl : x_311 = 762186 := ex_311.trans (by decide)
  refine lv_sipush (v := 4129) hx hb dX8_init_286 (by decide) ?_
  refine lv_ixor hx hb dX8_init_289 ?_
  refine lv_topi (fun x_312 ex_312 => ?_)
  obtain rfl : x_312 = 766315 := ex_312.trans (by decide)
  refine lv_goto (tgt := 296) hx hb dX8_init_290 (by decide) ?_
  refine lv_istore_n (lv' := [(2, .int 766315), (3, .int 3), (1, .int 11), (0, .ref mo)]) hx hb dX8_init_296 rfl hl (by decide) rfl (fun ls hl => ?_)
  refine lv_iinc (v := 4) (lv' := [(3, .int 4), (2, .int 766315), (1, .int 11), (0, .ref mo)]) hx hb dX8_init_297 hl (k := 1) rfl (by decide) (by decide) rfl (fun ls hl => ?_)
  refine lv_goto (tgt := 271) hx hb dX8_init_300 (by decide) ?_
  refine lv_iload_n hx hb dX8_init_271 rfl (lv_at hl 0 rfl) ?_
  refine lv_iconst (v := 4) hx hb dX8_init_272 (by decide) ?_
  refine lv_icmp_ge (tgt := 303) hx hb dX8_init_273 (by decide) (fun c_313 => ?_) (fun c_313 => absurd (by decide) c_313)
  refine lv_aload_n hx hb dX8_init_303 rfl (lv_at hl 3 rfl) ?_
  refine va_get (D := (dC, dI)) (ci := 6) (v := .ref q_1) (C := RX8) (T := TX8) (N := 39) hx hb hts iX8 hown hK hP 0 rfl rfl 1 (by decide) (hts (.fieldLink RX8 13 "BatchTransferModel" "nibbles" "[I") (by decide +kernel)) (fun _ h9 => h9) rfl dX8_init_304 ?_
  refine lv_iload_n hx hb dX8_init_307 rfl (lv_at hl 2 rfl) ?_
  refine lv_iload_n hx hb dX8_init_308 rfl (lv_at hl 1 rfl) ?_
  refine lv_ldc (v := 65535) hx hb hown (hts (.constant RX8 131 (65535)) (by decide +kernel)) dX8_init_309 ?_
  refine lv_iand hx hb dX8_init_311 ?_
  refine lv_topi (fun x_314 ex_314 => ?_)
  obtain rfl : x_314 = 45419 := ex_314.trans (by decide)
  have h_315 : vp_in (11) 16 := by unfold vp_in; decide +kernel
  refine va_iast hx hb hK hP hD hS 1 0 rfl rfl h_315 dX8_init_312 (fun H locs hP hD hS => ?_)
  obtain ⟨f_316, ef_316⟩ : ∃ g : Nat → Int32, g = upd f_291 (11 : Int32).toNatClampNeg 45419 := ⟨_, rfl⟩
  have hP : va_P (dC, dI) vwCl [(mo, .inr (6, [.int 0, .ref q_1, .ref q_3, .int 0, .int 0, .ref q_5, .ref q_7, .ref q_9, .ref q_11, .int 0, .ref q_13, .ref q_15, .ref q_17, .ref q_19, .ref q_21, .int 0, .int 0, .int 0, .ref q_23, .int 0, .int 0, .int 0, .int 0, .int 0, .int 0, .int 0, .int 0, .int 0, .int 0, .int 0, .int 0, .int 0, .int 0, .int 0, .ref q_25, .ref q_27, .ref q_29, .ref q_31, .int 0])), (q_1, .inl (cA_2, 16, .inl f_316)), (q_3, .inl (cA_4, 3100, .inl (fun _ => 0))), (q_5, .inl (cA_6, 96, .inl (fun _ => 0))), (q_7, .inl (cA_8, 8, .inl (fun _ => 0))), (q_9, .inl (cA_10, 24000, .inl (fun _ => 0))), (q_11, .inl (cA_12, 8, .inl (fun _ => 0))), (q_13, .inl (cA_14, 300, .inl (fun _ => 0))), (q_15, .inl (cA_16, 300, .inl (fun _ => 0))), (q_17, .inl (cA_18, 300, .inl (fun _ => 0))), (q_19, .inl (cA_20, 300, .inl (fun _ => 0))), (q_21, .inl (cA_22, 300, .inl (fun _ => 0))), (q_23, .inl (cA_24, 1040, .inl (fun _ => 0))), (q_25, .inl (cA_26, 96, .inl (fun _ => 0))), (q_27, .inl (cA_28, 8, .inl (fun _ => 0))), (q_29, .inl (cA_30, 28000, .inl (fun _ => 0))), (q_31, .inl (cA_32, 8, .inl (fun _ => 0)))] H := by rw [ef_316]; exact hP
  have hD : va_D A [(mo, .inr (6, [.int 0, .ref q_1, .ref q_3, .int 0, .int 0, .ref q_5, .ref q_7, .ref q_9, .ref q_11, .int 0, .ref q_13, .ref q_15, .ref q_17, .ref q_19, .ref q_21, .int 0, .int 0, .int 0, .ref q_23, .int 0, .int 0, .int 0, .int 0, .int 0, .int 0, .int 0, .int 0, .int 0, .int 0, .int 0, .int 0, .int 0, .int 0, .int 0, .ref q_25, .ref q_27, .ref q_29, .ref q_31, .int 0])), (q_1, .inl (cA_2, 16, .inl f_316)), (q_3, .inl (cA_4, 3100, .inl (fun _ => 0))), (q_5, .inl (cA_6, 96, .inl (fun _ => 0))), (q_7, .inl (cA_8, 8, .inl (fun _ => 0))), (q_9, .inl (cA_10, 24000, .inl (fun _ => 0))), (q_11, .inl (cA_12, 8, .inl (fun _ => 0))), (q_13, .inl (cA_14, 300, .inl (fun _ => 0))), (q_15, .inl (cA_16, 300, .inl (fun _ => 0))), (q_17, .inl (cA_18, 300, .inl (fun _ => 0))), (q_19, .inl (cA_20, 300, .inl (fun _ => 0))), (q_21, .inl (cA_22, 300, .inl (fun _ => 0))), (q_23, .inl (cA_24, 1040, .inl (fun _ => 0))), (q_25, .inl (cA_26, 96, .inl (fun _ => 0))), (q_27, .inl (cA_28, 8, .inl (fun _ => 0))), (q_29, .inl (cA_30, 28000, .inl (fun _ => 0))), (q_31, .inl (cA_32, 8, .inl (fun _ => 0)))] := by rw [ef_316]; exact hD
  refine lv_iinc (v := 12) (lv' := [(1, .int 12), (3, .int 4), (2, .int 766315), (0, .ref mo)]) hx hb dX8_init_313 hl (k := 2) rfl (by decide) (by decide) rfl (fun ls hl => ?_)
  refine lv_goto (tgt := 258) hx hb dX8_init_316 (by decide) ?_
  refine lv_iload_n hx hb dX8_init_258 rfl (lv_at hl 0 rfl) ?_
  refine lv_bipush (v := 16) hx hb dX8_init_259 (by decide) ?_
  refine lv_icmp_ge (tgt := 319) hx hb dX8_init_261 (by decide) (fun c_317 => absurd c_317 (by decide)) (fun c_317 => ?_)
  refine lv_iload_n hx hb dX8_init_264 rfl (lv_at hl 0 rfl) ?_
  refine lv_bipush (v := 12) hx hb dX8_init_265 (by decide) ?_
  refine lv_ishl hx hb dX8_init_267 ?_
  refine lv_topi (fun x_318 ex_318 => ?_)
  obtain rfl : x_318 = 49152 := ex_318.trans (by decide)
  refine lv_istore_n (lv' := [(2, .int 49152), (1, .int 12), (3, .int 4), (0, .ref mo)]) hx hb dX8_init_268 rfl hl (by decide) rfl (fun ls hl => ?_)
  refine lv_iconst (v := 0) hx hb dX8_init_269 (by decide) ?_
  refine lv_istore_n (lv' := [(3, .int 0), (2, .int 49152), (1, .int 12), (0, .ref mo)]) hx hb dX8_init_270 rfl hl (by decide) rfl (fun ls hl => ?_)
  refine lv_iload_n hx hb dX8_init_271 rfl (lv_at hl 0 rfl) ?_
  refine lv_iconst (v := 4) hx hb dX8_init_272 (by decide) ?_
  refine lv_icmp_ge (tgt := 303) hx hb dX8_init_273 (by decide) (fun c_319 => absurd c_319 (by decide)) (fun c_319 => ?_)
  refine lv_iload_n hx hb dX8_init_276 rfl (lv_at hl 1 rfl) ?_
  refine lv_ldc (v := 32768) hx hb hown (hts (.constant RX8 130 (32768)) (by decide +kernel)) dX8_init_277 ?_
  refine lv_iand hx hb dX8_init_279 ?_
  refine lv_topi (fun x_320 ex_320 => ?_)
  obtain rfl : x_320 = 32768 := ex_320.trans (by decide)
  refine lv_if_eq (tgt := 293) hx hb dX8_init_280 (by decide) (fun c_321 => absurd c_321 (by decide)) (fun c_321 => ?_)
  refine lv_iload_n hx hb dX8_init_283 rfl (lv_at hl 1 rfl) ?_
  refine lv_iconst (v := 1) hx hb dX8_init_284 (by decide) ?_
  refine lv_ishl hx hb dX8_init_285 ?_
  refine lv_topi (fun x_322 ex_322 => ?_)
  obtain rfl : x_322 = 98304 := ex_322.trans (by decide)
  refine lv_sipush (v := 4129) hx hb dX8_init_286 (by decide) ?_
  refine lv_ixor hx hb dX8_init_289 ?_
  refine lv_topi (fun x_323 ex_323 => ?_)
  obtain rfl : x_323 = 102433 := ex_323.trans (by decide)
  refine lv_goto (tgt := 296) hx hb dX8_init_290 (by decide) ?_
  refine lv_istore_n (lv' := [(2, .int 102433), (3, .int 0), (1, .int 12), (0, .ref mo)]) hx hb dX8_init_296 rfl hl (by decide) rfl (fun ls hl => ?_)
  refine lv_iinc (v := 1) (lv' := [(3, .int 1), (2, .int 102433), (1, .int 12), (0, .ref mo)]) hx hb dX8_init_297 hl (k := 1) rfl (by decide) (by decide) rfl (fun ls hl => ?_)
  refine lv_goto (tgt := 271) hx hb dX8_init_300 (by decide) ?_
  refine lv_iload_n hx hb dX8_init_271 rfl (lv_at hl 0 rfl) ?_
  refine lv_iconst (v := 4) hx hb dX8_init_272 (by decide) ?_
  refine lv_icmp_ge (tgt := 303) hx hb dX8_init_273 (by decide) (fun c_324 => absurd c_324 (by decide)) (fun c_324 => ?_)
  refine lv_iload_n hx hb dX8_init_276 rfl (lv_at hl 1 rfl) ?_
  refine lv_ldc (v := 32768) hx hb hown (hts (.constant RX8 130 (32768)) (by decide +kernel)) dX8_init_277 ?_
  refine lv_iand hx hb dX8_init_279 ?_
  refine lv_topi (fun x_325 ex_325 => ?_)
  obtain rfl : x_325 = 32768 := ex_325.trans (by decide)
  refine lv_if_eq (tgt := 293) hx hb dX8_init_280 (by decide) (fun c_326 => absurd c_326 (by decide)) (fun c_326 => ?_)
  refine lv_iload_n hx hb dX8_init_283 rfl (lv_at hl 1 rfl) ?_
  refine lv_iconst (v := 1) hx hb dX8_init_284 (by decide) ?_
  refine lv_ishl hx hb dX8_init_285 ?_
  refine lv_topi (fun x_327 ex_327 => ?_)
  obtain rfl : x_327 = 204866 := ex_327.trans (by decide)
  refine lv_sipush (v := 4129) hx hb dX8_init_286 (by decide) ?_
  refine lv_ixor hx hb dX8_init_289 ?_
  refine lv_topi (fun x_328 ex_328 => ?_)
  obtain rfl : x_328 = 208995 := ex_328.trans (by decide)
  refine lv_goto (tgt := 296) hx hb dX8_init_290 (by decide) ?_
  refine lv_istore_n (lv' := [(2, .int 208995), (3, .int 1), (1, .int 12), (0, .ref mo)]) hx hb dX8_init_296 rfl hl (by decide) rfl (fun ls hl => ?_)
  refine lv_iinc (v := 2) (lv' := [(3, .int 2), (2, .int 208995), (1, .int 12), (0, .ref mo)]) hx hb dX8_init_297 hl (k := 1) rfl (by decide) (by decide) rfl (fun ls hl => ?_)
  refine lv_goto (tgt := 271) hx hb dX8_init_300 (by decide) ?_
  refine lv_iload_n hx hb dX8_init_271 rfl (lv_at hl 0 rfl) ?_
  refine lv_iconst (v := 4) hx hb dX8_init_272 (by decide) ?_
  refine lv_icmp_ge (tgt := 303) hx hb dX8_init_273 (by decide) (fun c_329 => absurd c_329 (by decide)) (fun c_329 => ?_)
  refine lv_iload_n hx hb dX8_init_276 rfl (lv_at hl 1 rfl) ?_
  refine lv_ldc (v := 32768) hx hb hown (hts (.constant RX8 130 (32768)) (by decide +kernel)) dX8_init_277 ?_
  refine lv_iand hx hb dX8_init_279 ?_
  refine lv_topi (fun x_330 ex_330 => ?_)
  obtain rfl : x_330 = 0 := ex_330.trans (by decide)
  refine lv_if_eq (tgt := 293) hx hb dX8_init_280 (by decide) (fun c_331 => ?_) (fun c_331 => absurd (by decide) c_331)
  refine lv_iload_n hx hb dX8_init_293 rfl (lv_at hl 1 rfl) ?_
  refine lv_iconst (v := 1) hx hb dX8_init_294 (by decide) ?_
  refine lv_ishl hx hb dX8_init_295 ?_
  refine lv_topi (fun x_332 ex_332 => ?_)
  obtain rfl : x_332 = 417990 := ex_332.trans (by decide)
  refine lv_istore_n (lv' := [(2, .int 417990), (3, .int 2), (1, .int 12), (0, .ref mo)]) hx hb dX8_init_296 rfl hl (by decide) rfl (fun ls hl => ?_)
  refine lv_iinc (v := 3) (lv' := [(3, .int 3), (2, .int 417990), (1, .int 12), (0, .ref mo)]) hx hb dX8_init_297 hl (k := 1) rfl (by decide) (by decide) rfl (fun ls hl => ?_)
  refine lv_goto (tgt := 271) hx hb dX8_init_300 (by decide) ?_
  refine lv_iload_n hx hb dX8_init_271 rfl (lv_at hl 0 rfl) ?_
  refine lv_iconst (v := 4) hx hb dX8_init_272 (by decide) ?_
  refine lv_icmp_ge (tgt := 303) hx hb dX8_init_273 (by decide) (fun c_333 => absurd c_333 (by decide)) (fun c_333 => ?_)
  refine lv_iload_n hx hb dX8_init_276 rfl (lv_at hl 1 rfl) ?_
  refine lv_ldc (v := 32768) hx hb hown (hts (.constant RX8 130 (32768)) (by decide +kernel)) dX8_init_277 ?_
  refine lv_iand hx hb dX8_init_279 ?_
  refine lv_topi (fun x_334 ex_334 => ?_)
  obtain rfl : x_334 = 0 := ex_334.trans (by decide)
  refine lv_if_eq (tgt := 293) hx hb dX8_init_280 (by decide) (fun c_335 => ?_) (fun c_335 => absurd (by decide) c_335)
  refine lv_iload_n hx hb dX8_init_293 rfl (lv_at hl 1 rfl) ?_
  refine lv_iconst (v := 1) hx hb dX8_init_294 (by decide) ?_
  refine lv_ishl hx hb dX8_init_295 ?_
  refine lv_topi (fun x_336 ex_336 => ?_)
  obtain rfl : x_336 = 835980 := ex_336.trans (by decide)
  refine lv_istore_n (lv' := [(2, .int 835980), (3, .int 3), (1, .int 12), (0, .ref mo)]) hx hb dX8_init_296 rfl hl (by decide) rfl (fun ls hl => ?_)
  refine lv_iinc (v := 4) (lv' := [(3, .int 4), (2, .int 835980), (1, .int 12), (0, .ref mo)]) hx hb dX8_init_297 hl (k := 1) rfl (by decide) (by decide) rfl (fun ls hl => ?_)
  refine lv_goto (tgt := 271) hx hb dX8_init_300 (by decide) ?_
  refine lv_iload_n hx hb dX8_init_271 rfl (lv_at hl 0 rfl) ?_
  refine lv_iconst (v := 4) hx hb dX8_init_272 (by decide) ?_
  refine lv_icmp_ge (tgt := 303) hx hb dX8_init_273 (by decide) (fun c_337 => ?_) (fun c_337 => absurd (by decide) c_337)
  refine lv_aload_n hx hb dX8_init_303 rfl (lv_at hl 3 rfl) ?_
  refine va_get (D := (dC, dI)) (ci := 6) (v := .ref q_1) (C := RX8) (T := TX8) (N := 39) hx hb hts iX8 hown hK hP 0 rfl rfl 1 (by decide) (hts (.fieldLink RX8 13 "BatchTransferModel" "nibbles" "[I") (by decide +kernel)) (fun _ h9 => h9) rfl dX8_init_304 ?_
  refine lv_iload_n hx hb dX8_init_307 rfl (lv_at hl 2 rfl) ?_
  refine lv_iload_n hx hb dX8_init_308 rfl (lv_at hl 1 rfl) ?_
  refine lv_ldc (v := 65535) hx hb hown (hts (.constant RX8 131 (65535)) (by decide +kernel)) dX8_init_309 ?_
  refine lv_iand hx hb dX8_init_311 ?_
  refine lv_topi (fun x_338 ex_338 => ?_)
  obtain rfl : x_338 = 49548 := ex_338.trans (by decide)
  have h_339 : vp_in (12) 16 := by unfold vp_in; decide +kernel
  refine va_iast hx hb hK hP hD hS 1 0 rfl rfl h_339 dX8_init_312 (fun H locs hP hD hS => ?_)
  obtain ⟨f_340, ef_340⟩ : ∃ g : Nat → Int32, g = upd f_316 (12 : Int32).toNatClampNeg 49548 := ⟨_, rfl⟩
  have hP : va_P (dC, dI) vwCl [(mo, .inr (6, [.int 0, .ref q_1, .ref q_3, .int 0, .int 0, .ref q_5, .ref q_7, .ref q_9, .ref q_11, .int 0, .ref q_13, .ref q_15, .ref q_17, .ref q_19, .ref q_21, .int 0, .int 0, .int 0, .ref q_23, .int 0, .int 0, .int 0, .int 0, .int 0, .int 0, .int 0, .int 0, .int 0, .int 0, .int 0, .int 0, .int 0, .int 0, .int 0, .ref q_25, .ref q_27, .ref q_29, .ref q_31, .int 0])), (q_1, .inl (cA_2, 16, .inl f_340)), (q_3, .inl (cA_4, 3100, .inl (fun _ => 0))), (q_5, .inl (cA_6, 96, .inl (fun _ => 0))), (q_7, .inl (cA_8, 8, .inl (fun _ => 0))), (q_9, .inl (cA_10, 24000, .inl (fun _ => 0))), (q_11, .inl (cA_12, 8, .inl (fun _ => 0))), (q_13, .inl (cA_14, 300, .inl (fun _ => 0))), (q_15, .inl (cA_16, 300, .inl (fun _ => 0))), (q_17, .inl (cA_18, 300, .inl (fun _ => 0))), (q_19, .inl (cA_20, 300, .inl (fun _ => 0))), (q_21, .inl (cA_22, 300, .inl (fun _ => 0))), (q_23, .inl (cA_24, 1040, .inl (fun _ => 0))), (q_25, .inl (cA_26, 96, .inl (fun _ => 0))), (q_27, .inl (cA_28, 8, .inl (fun _ => 0))), (q_29, .inl (cA_30, 28000, .inl (fun _ => 0))), (q_31, .inl (cA_32, 8, .inl (fun _ => 0)))] H := by rw [ef_340]; exact hP
  have hD : va_D A [(mo, .inr (6, [.int 0, .ref q_1, .ref q_3, .int 0, .int 0, .ref q_5, .ref q_7, .ref q_9, .ref q_11, .int 0, .ref q_13, .ref q_15, .ref q_17, .ref q_19, .ref q_21, .int 0, .int 0, .int 0, .ref q_23, .int 0, .int 0, .int 0, .int 0, .int 0, .int 0, .int 0, .int 0, .int 0, .int 0, .int 0, .int 0, .int 0, .int 0, .int 0, .ref q_25, .ref q_27, .ref q_29, .ref q_31, .int 0])), (q_1, .inl (cA_2, 16, .inl f_340)), (q_3, .inl (cA_4, 3100, .inl (fun _ => 0))), (q_5, .inl (cA_6, 96, .inl (fun _ => 0))), (q_7, .inl (cA_8, 8, .inl (fun _ => 0))), (q_9, .inl (cA_10, 24000, .inl (fun _ => 0))), (q_11, .inl (cA_12, 8, .inl (fun _ => 0))), (q_13, .inl (cA_14, 300, .inl (fun _ => 0))), (q_15, .inl (cA_16, 300, .inl (fun _ => 0))), (q_17, .inl (cA_18, 300, .inl (fun _ => 0))), (q_19, .inl (cA_20, 300, .inl (fun _ => 0))), (q_21, .inl (cA_22, 300, .inl (fun _ => 0))), (q_23, .inl (cA_24, 1040, .inl (fun _ => 0))), (q_25, .inl (cA_26, 96, .inl (fun _ => 0))), (q_27, .inl (cA_28, 8, .inl (fun _ => 0))), (q_29, .inl (cA_30, 28000, .inl (fun _ => 0))), (q_31, .inl (cA_32, 8, .inl (fun _ => 0)))] := by rw [ef_340]; exact hD
  refine lv_iinc (v := 13) (lv' := [(1, .int 13), (3, .int 4), (2, .int 835980), (0, .ref mo)]) hx hb dX8_init_313 hl (k := 2) rfl (by decide) (by decide) rfl (fun ls hl => ?_)
  refine lv_goto (tgt := 258) hx hb dX8_init_316 (by decide) ?_
  refine lv_iload_n hx hb dX8_init_258 rfl (lv_at hl 0 rfl) ?_
  refine lv_bipush (v := 16) hx hb dX8_init_259 (by decide) ?_
  refine lv_icmp_ge (tgt := 319) hx hb dX8_init_261 (by decide) (fun c_341 => absurd c_341 (by decide)) (fun c_341 => ?_)
  refine lv_iload_n hx hb dX8_init_264 rfl (lv_at hl 0 rfl) ?_
  refine lv_bipush (v := 12) hx hb dX8_init_265 (by decide) ?_
  refine lv_ishl hx hb dX8_init_267 ?_
  refine lv_topi (fun x_342 ex_342 => ?_)
  obtain rfl : x_342 = 53248 := ex_342.trans (by decide)
  refine lv_istore_n (lv' := [(2, .int 53248), (1, .int 13), (3, .int 4), (0, .ref mo)]) hx hb dX8_init_268 rfl hl (by decide) rfl (fun ls hl => ?_)
  refine lv_iconst (v := 0) hx hb dX8_init_269 (by decide) ?_
  refine lv_istore_n (lv' := [(3, .int 0), (2, .int 53248), (1, .int 13), (0, .ref mo)]) hx hb dX8_init_270 rfl hl (by decide) rfl (fun ls hl => ?_)
  refine lv_iload_n hx hb dX8_init_271 rfl (lv_at hl 0 rfl) ?_
  refine lv_iconst (v := 4) hx hb dX8_init_272 (by decide) ?_
  refine lv_icmp_ge (tgt := 303) hx hb dX8_init_273 (by decide) (fun c_343 => absurd c_343 (by decide)) (fun c_343 => ?_)
  refine lv_iload_n hx hb dX8_init_276 rfl (lv_at hl 1 rfl) ?_
  refine lv_ldc (v := 32768) hx hb hown (hts (.constant RX8 130 (32768)) (by decide +kernel)) dX8_init_277 ?_
  refine lv_iand hx hb dX8_init_279 ?_
  refine lv_topi (fun x_344 ex_344 => ?_)
  obtain rfl : x_344 = 32768 := ex_344.trans (by decide)
  refine lv_if_eq (tgt := 293) hx hb dX8_init_280 (by decide) (fun c_345 => absurd c_345 (by decide)) (fun c_345 => ?_)
  refine lv_iload_n hx hb dX8_init_283 rfl (lv_at hl 1 rfl) ?_
  refine lv_iconst (v := 1) hx hb dX8_init_284 (by decide) ?_
  refine lv_ishl hx hb dX8_init_285 ?_
  refine lv_topi (fun x_346 ex_346 => ?_)
  obtain rfl : x_346 = 106496 := ex_346.trans (by decide)
  refine lv_sipush (v := 4129) hx hb dX8_init_286 (by decide) ?_
  refine lv_ixor hx hb dX8_init_289 ?_
  refine lv_topi (fun x_347 ex_347 => ?_)
  obtain rfl : x_347 = 110625 := ex_347.trans (by decide)
  refine lv_goto (tgt := 296) hx hb dX8_init_290 (by decide) ?_
  refine lv_istore_n (lv' := [(2, .int 110625), (3, .int 0), (1, .int 13), (0, .ref mo)]) hx hb dX8_init_296 rfl hl (by decide) rfl (fun ls hl => ?_)
  refine lv_iinc (v := 1) (lv' := [(3, .int 1), (2, .int 110625), (1, .int 13), (0, .ref mo)]) hx hb dX8_init_297 hl (k := 1) rfl (by decide) (by decide) rfl (fun ls hl => ?_)
  refine lv_goto (tgt := 271) hx hb dX8_init_300 (by decide) ?_
  refine lv_iload_n hx hb dX8_init_271 rfl (lv_at hl 0 rfl) ?_
  refine lv_iconst (v := 4) hx hb dX8_init_272 (by decide) ?_
  refine lv_icmp_ge (tgt := 303) hx hb dX8_init_273 (by decide) (fun c_348 => absurd c_348 (by decide)) (fun c_348 => ?_)
  refine lv_iload_n hx hb dX8_init_276 rfl (lv_at hl 1 rfl) ?_
  refine lv_ldc (v := 32768) hx hb hown (hts (.constant RX8 130 (32768)) (by decide +kernel)) dX8_init_277 ?_
  refine lv_iand hx hb dX8_init_279 ?_
  refine lv_topi (fun x_349 ex_349 => ?_)
  obtain rfl : x_349 = 32768 := ex_349.trans (by decide)
  refine lv_if_eq (tgt := 293) hx hb dX8_init_280 (by decide) (fun c_350 => absurd c_350 (by decide)) (fun c_350 => ?_)
  refine lv_iload_n hx hb dX8_init_283 rfl (lv_at hl 1 rfl) ?_
  refine lv_iconst (v := 1) hx hb dX8_init_284 (by decide) ?_
  refine lv_ishl hx hb dX8_init_285 ?_
  refine lv_topi (fun x_351 ex_351 => ?_)
  obtain rfl : x_351 = 221250 := ex_351.trans (by decide)
  refine lv_sipush (v := 4129) hx hb dX8_init_286 (by decide) ?_
  refine lv_ixor hx hb dX8_init_289 ?_
  refine lv_topi (fun x_352 ex_352 => ?_)
  obtain rfl : x_352 = 225379 := ex_352.trans (by decide)
  refine lv_goto (tgt := 296) hx hb dX8_init_290 (by decide) ?_
  refine lv_istore_n (lv' := [(2, .int 225379), (3, .int 1), (1, .int 13), (0, .ref mo)]) hx hb dX8_init_296 rfl hl (by decide) rfl (fun ls hl => ?_)
  refine lv_iinc (v := 2) (lv' := [(3, .int 2), (2, .int 225379), (1, .int 13), (0, .ref mo)]) hx hb dX8_init_297 hl (k := 1) rfl (by decide) (by decide) rfl (fun ls hl => ?_)
  refine lv_goto (tgt := 271) hx hb dX8_init_300 (by decide) ?_
  refine lv_iload_n hx hb dX8_init_271 rfl (lv_at hl 0 rfl) ?_
  refine lv_iconst (v := 4) hx hb dX8_init_272 (by decide) ?_
  refine lv_icmp_ge (tgt := 303) hx hb dX8_init_273 (by decide) (fun c_353 => absurd c_353 (by decide)) (fun c_353 => ?_)
  refine lv_iload_n hx hb dX8_init_276 rfl (lv_at hl 1 rfl) ?_
  refine lv_ldc (v := 32768) hx hb hown (hts (.constant RX8 130 (32768)) (by decide +kernel)) dX8_init_277 ?_
  refine lv_iand hx hb dX8_init_279 ?_
  refine lv_topi (fun x_354 ex_354 => ?_)
  obtain rfl : x_354 = 0 := ex_354.trans (by decide)
  refine lv_if_eq (tgt := 293) hx hb dX8_init_280 (by decide) (fun c_355 => ?_) (fun c_355 => absurd (by decide) c_355)
  refine lv_iload_n hx hb dX8_init_293 rfl (lv_at hl 1 rfl) ?_
  refine lv_iconst (v := 1) hx hb dX8_init_294 (by decide) ?_
  refine lv_ishl hx hb dX8_init_295 ?_
  refine lv_topi (fun x_356 ex_356 => ?_)
  obtain rfl : x_356 = 450758 := ex_356.trans (by decide)
  refine lv_istore_n (lv' := [(2, .int 450758), (3, .int 2), (1, .int 13), (0, .ref mo)]) hx hb dX8_init_296 rfl hl (by decide) rfl (fun ls hl => ?_)
  refine lv_iinc (v := 3) (lv' := [(3, .int 3), (2, .int 450758), (1, .int 13), (0, .ref mo)]) hx hb dX8_init_297 hl (k := 1) rfl (by decide) (by decide) rfl (fun ls hl => ?_)
  refine lv_goto (tgt := 271) hx hb dX8_init_300 (by decide) ?_
  refine lv_iload_n hx hb dX8_init_271 rfl (lv_at hl 0 rfl) ?_
  refine lv_iconst (v := 4) hx hb dX8_init_272 (by decide) ?_
  refine lv_icmp_ge (tgt := 303) hx hb dX8_init_273 (by decide) (fun c_357 => absurd c_357 (by decide)) (fun c_357 => ?_)
  refine lv_iload_n hx hb dX8_init_276 rfl (lv_at hl 1 rfl) ?_
  refine lv_ldc (v := 32768) hx hb hown (hts (.constant RX8 130 (32768)) (by decide +kernel)) dX8_init_277 ?_
  refine lv_iand hx hb dX8_init_279 ?_
  refine lv_topi (fun x_358 ex_358 => ?_)
  obtain rfl : x_358 = 32768 := ex_358.trans (by decide)
  refine lv_if_eq (tgt := 293) hx hb dX8_init_280 (by decide) (fun c_359 => absurd c_359 (by decide)) (fun c_359 => ?_)
  refine lv_iload_n hx hb dX8_init_283 rfl (lv_at hl 1 rfl) ?_
  refine lv_iconst (v := 1) hx hb dX8_init_284 (by decide) ?_
  refine lv_ishl hx hb dX8_init_285 ?_
  refine lv_topi (fun x_360 ex_360 => ?_)
  obtain rfl : x_360 = 901516 := ex_360.trans (by decide)
  refine lv_sipush (v := 4129) hx hb dX8_init_286 (by decide) ?_
  refine lv_ixor hx hb dX8_init_289 ?_
  refine lv_topi (fun x_361 ex_361 => ?_)
  obtain rfl : x_361 = 905645 := ex_361.trans (by decide)
  refine lv_goto (tgt := 296) hx hb dX8_init_290 (by decide) ?_
  refine lv_istore_n (lv' := [(2, .int 905645), (3, .int 3), (1, .int 13), (0, .ref mo)]) hx hb dX8_init_296 rfl hl (by decide) rfl (fun ls hl => ?_)
  refine lv_iinc (v := 4) (lv' := [(3, .int 4), (2, .int 905645), (1, .int 13), (0, .ref mo)]) hx hb dX8_init_297 hl (k := 1) rfl (by decide) (by decide) rfl (fun ls hl => ?_)
  refine lv_goto (tgt := 271) hx hb dX8_init_300 (by decide) ?_
  refine lv_iload_n hx hb dX8_init_271 rfl (lv_at hl 0 rfl) ?_
  refine lv_iconst (v := 4) hx hb dX8_init_272 (by decide) ?_
  refine lv_icmp_ge (tgt := 303) hx hb dX8_init_273 (by decide) (fun c_362 => ?_) (fun c_362 => absurd (by decide) c_362)
  refine lv_aload_n hx hb dX8_init_303 rfl (lv_at hl 3 rfl) ?_
  refine va_get (D := (dC, dI)) (ci := 6) (v := .ref q_1) (C := RX8) (T := TX8) (N := 39) hx hb hts iX8 hown hK hP 0 rfl rfl 1 (by decide) (hts (.fieldLink RX8 13 "BatchTransferModel" "nibbles" "[I") (by decide +kernel)) (fun _ h9 => h9) rfl dX8_init_304 ?_
  refine lv_iload_n hx hb dX8_init_307 rfl (lv_at hl 2 rfl) ?_
  refine lv_iload_n hx hb dX8_init_308 rfl (lv_at hl 1 rfl) ?_
  refine lv_ldc (v := 65535) hx hb hown (hts (.constant RX8 131 (65535)) (by decide +kernel)) dX8_init_309 ?_
  refine lv_iand hx hb dX8_init_311 ?_
  refine lv_topi (fun x_363 ex_363 => ?_)
  obtain rfl : x_363 = 53677 := ex_363.trans (by decide)
  have h_364 : vp_in (13) 16 := by unfold vp_in; decide +kernel
  refine va_iast hx hb hK hP hD hS 1 0 rfl rfl h_364 dX8_init_312 (fun H locs hP hD hS => ?_)
  obtain ⟨f_365, ef_365⟩ : ∃ g : Nat → Int32, g = upd f_340 (13 : Int32).toNatClampNeg 53677 := ⟨_, rfl⟩
  have hP : va_P (dC, dI) vwCl [(mo, .inr (6, [.int 0, .ref q_1, .ref q_3, .int 0, .int 0, .ref q_5, .ref q_7, .ref q_9, .ref q_11, .int 0, .ref q_13, .ref q_15, .ref q_17, .ref q_19, .ref q_21, .int 0, .int 0, .int 0, .ref q_23, .int 0, .int 0, .int 0, .int 0, .int 0, .int 0, .int 0, .int 0, .int 0, .int 0, .int 0, .int 0, .int 0, .int 0, .int 0, .ref q_25, .ref q_27, .ref q_29, .ref q_31, .int 0])), (q_1, .inl (cA_2, 16, .inl f_365)), (q_3, .inl (cA_4, 3100, .inl (fun _ => 0))), (q_5, .inl (cA_6, 96, .inl (fun _ => 0))), (q_7, .inl (cA_8, 8, .inl (fun _ => 0))), (q_9, .inl (cA_10, 24000, .inl (fun _ => 0))), (q_11, .inl (cA_12, 8, .inl (fun _ => 0))), (q_13, .inl (cA_14, 300, .inl (fun _ => 0))), (q_15, .inl (cA_16, 300, .inl (fun _ => 0))), (q_17, .inl (cA_18, 300, .inl (fun _ => 0))), (q_19, .inl (cA_20, 300, .inl (fun _ => 0))), (q_21, .inl (cA_22, 300, .inl (fun _ => 0))), (q_23, .inl (cA_24, 1040, .inl (fun _ => 0))), (q_25, .inl (cA_26, 96, .inl (fun _ => 0))), (q_27, .inl (cA_28, 8, .inl (fun _ => 0))), (q_29, .inl (cA_30, 28000, .inl (fun _ => 0))), (q_31, .inl (cA_32, 8, .inl (fun _ => 0)))] H := by rw [ef_365]; exact hP
  have hD : va_D A [(mo, .inr (6, [.int 0, .ref q_1, .ref q_3, .int 0, .int 0, .ref q_5, .ref q_7, .ref q_9, .ref q_11, .int 0, .ref q_13, .ref q_15, .ref q_17, .ref q_19, .ref q_21, .int 0, .int 0, .int 0, .ref q_23, .int 0, .int 0, .int 0, .int 0, .int 0, .int 0, .int 0, .int 0, .int 0, .int 0, .int 0, .int 0, .int 0, .int 0, .int 0, .ref q_25, .ref q_27, .ref q_29, .ref q_31, .int 0])), (q_1, .inl (cA_2, 16, .inl f_365)), (q_3, .inl (cA_4, 3100, .inl (fun _ => 0))), (q_5, .inl (cA_6, 96, .inl (fun _ => 0))), (q_7, .inl (cA_8, 8, .inl (fun _ => 0))), (q_9, .inl (cA_10, 24000, .inl (fun _ => 0))), (q_11, .inl (cA_12, 8, .inl (fun _ => 0))), (q_13, .inl (cA_14, 300, .inl (fun _ => 0))), (q_15, .inl (cA_16, 300, .inl (fun _ => 0))), (q_17, .inl (cA_18, 300, .inl (fun _ => 0))), (q_19, .inl (cA_20, 300, .inl (fun _ => 0))), (q_21, .inl (cA_22, 300, .inl (fun _ => 0))), (q_23, .inl (cA_24, 1040, .inl (fun _ => 0))), (q_25, .inl (cA_26, 96, .inl (fun _ => 0))), (q_27, .inl (cA_28, 8, .inl (fun _ => 0))), (q_29, .inl (cA_30, 28000, .inl (fun _ => 0))), (q_31, .inl (cA_32, 8, .inl (fun _ => 0)))] := by rw [ef_365]; exact hD
  refine lv_iinc (v := 14) (lv' := [(1, .int 14), (3, .int 4), (2, .int 905645), (0, .ref mo)]) hx hb dX8_init_313 hl (k := 2) rfl (by decide) (by decide) rfl (fun ls hl => ?_)
  refine lv_goto (tgt := 258) hx hb dX8_init_316 (by decide) ?_
  refine lv_iload_n hx hb dX8_init_258 rfl (lv_at hl 0 rfl) ?_
  refine lv_bipush (v := 16) hx hb dX8_init_259 (by decide) ?_
  refine lv_icmp_ge (tgt := 319) hx hb dX8_init_261 (by decide) (fun c_366 => absurd c_366 (by decide)) (fun c_366 => ?_)
  refine lv_iload_n hx hb dX8_init_264 rfl (lv_at hl 0 rfl) ?_
  refine lv_bipush (v := 12) hx hb dX8_init_265 (by decide) ?_
  refine lv_ishl hx hb dX8_init_267 ?_
  refine lv_topi (fun x_367 ex_367 => ?_)
  obtain rfl : x_367 = 57344 := ex_367.trans (by decide)
  refine lv_istore_n (lv' := [(2, .int 57344), (1, .int 14), (3, .int 4), (0, .ref mo)]) hx hb dX8_init_268 rfl hl (by decide) rfl (fun ls hl => ?_)
  refine lv_iconst (v := 0) hx hb dX8_init_269 (by decide) ?_
  refine lv_istore_n (lv' := [(3, .int 0), (2, .int 57344), (1, .int 14), (0, .ref mo)]) hx hb dX8_init_270 rfl hl (by decide) rfl (fun ls hl => ?_)
  refine lv_iload_n hx hb dX8_init_271 rfl (lv_at hl 0 rfl) ?_
  refine lv_iconst (v := 4) hx hb dX8_init_272 (by decide) ?_
  refine lv_icmp_ge (tgt := 303) hx hb dX8_init_273 (by decide) (fun c_368 => absurd c_368 (by decide)) (fun c_368 => ?_)
  refine lv_iload_n hx hb dX8_init_276 rfl (lv_at hl 1 rfl) ?_
  refine lv_ldc (v := 32768) hx hb hown (hts (.constant RX8 130 (32768)) (by decide +kernel)) dX8_init_277 ?_
  refine lv_iand hx hb dX8_init_279 ?_
  refine lv_topi (fun x_369 ex_369 => ?_)
  obtain rfl : x_369 = 32768 := ex_369.trans (by decide)
  refine lv_if_eq (tgt := 293) hx hb dX8_init_280 (by decide) (fun c_370 => absurd c_370 (by decide)) (fun c_370 => ?_)
  refine lv_iload_n hx hb dX8_init_283 rfl (lv_at hl 1 rfl) ?_
  refine lv_iconst (v := 1) hx hb dX8_init_284 (by decide) ?_
  refine lv_ishl hx hb dX8_init_285 ?_
  refine lv_topi (fun x_371 ex_371 => ?_)
  obtain rfl : x_371 = 114688 := ex_371.trans (by decide)
  refine lv_sipush (v := 4129) hx hb dX8_init_286 (by decide) ?_
  refine lv_ixor hx hb dX8_init_289 ?_
  refine lv_topi (fun x_372 ex_372 => ?_)
  obtain rfl : x_372 = 118817 := ex_372.trans (by decide)
  refine lv_goto (tgt := 296) hx hb dX8_init_290 (by decide) ?_
  refine lv_istore_n (lv' := [(2, .int 118817), (3, .int 0), (1, .int 14), (0, .ref mo)]) hx hb dX8_init_296 rfl hl (by decide) rfl (fun ls hl => ?_)
  refine lv_iinc (v := 1) (lv' := [(3, .int 1), (2, .int 118817), (1, .int 14), (0, .ref mo)]) hx hb dX8_init_297 hl (k := 1) rfl (by decide) (by decide) rfl (fun ls hl => ?_)
  refine lv_goto (tgt := 271) hx hb dX8_init_300 (by decide) ?_
  refine lv_iload_n hx hb dX8_init_271 rfl (lv_at hl 0 rfl) ?_
  refine lv_iconst (v := 4) hx hb dX8_init_272 (by decide) ?_
  refine lv_icmp_ge (tgt := 303) hx hb dX8_init_273 (by decide) (fun c_373 => absurd c_373 (by decide)) (fun c_373 => ?_)
  refine lv_iload_n hx hb dX8_init_276 rfl (lv_at hl 1 rfl) ?_
  refine lv_ldc (v := 32768) hx hb hown (hts (.constant RX8 130 (32768)) (by decide +kernel)) dX8_init_277 ?_
  refine lv_iand hx hb dX8_init_279 ?_
  refine lv_topi (fun x_374 ex_374 => ?_)
  obtain rfl : x_374 = 32768 := ex_374.trans (by decide)
  refine lv_if_eq (tgt := 293) hx hb dX8_init_280 (by decide) (fun c_375 => absurd c_375 (by decide)) (fun c_375 => ?_)
  refine lv_iload_n hx hb dX8_init_283 rfl (lv_at hl 1 rfl) ?_
  refine lv_iconst (v := 1) hx hb dX8_init_284 (by decide) ?_
  refine lv_ishl hx hb dX8_init_285 ?_
  refine lv_topi (fun x_376 ex_376 => ?_)
  obtain rfl : x_376 = 237634 := ex_376.trans (by decide)
  refine lv_sipush (v := 4129) hx hb dX8_init_286 (by decide) ?_
  refine lv_ixor hx hb dX8_init_289 ?_
  refine lv_topi (fun x_377 ex_377 => ?_)
  obtain rfl : x_377 = 241763 := ex_377.trans (by decide)
  refine lv_goto (tgt := 296) hx hb dX8_init_290 (by decide) ?_
  refine lv_istore_n (lv' := [(2, .int 241763), (3, .int 1), (1, .int 14), (0, .ref mo)]) hx hb dX8_init_296 rfl hl (by decide) rfl (fun ls hl => ?_)
  refine lv_iinc (v := 2) (lv' := [(3, .int 2), (2, .int 241763), (1, .int 14), (0, .ref mo)]) hx hb dX8_init_297 hl (k := 1) rfl (by decide) (by decide) rfl (fun ls hl => ?_)
  refine lv_goto (tgt := 271) hx hb dX8_init_300 (by decide) ?_
  refine lv_iload_n hx hb dX8_init_271 rfl (lv_at hl 0 rfl) ?_
  refine lv_iconst (v := 4) hx hb dX8_init_272 (by decide) ?_
  refine lv_icmp_ge (tgt := 303) hx hb dX8_init_273 (by decide) (fun c_378 => absurd c_378 (by decide)) (fun c_378 => ?_)
  refine lv_iload_n hx hb dX8_init_276 rfl (lv_at hl 1 rfl) ?_
  refine lv_ldc (v := 32768) hx hb hown (hts (.constant RX8 130 (32768)) (by decide +kernel)) dX8_init_277 ?_
  refine lv_iand hx hb dX8_init_279 ?_
  refine lv_topi (fun x_379 ex_379 => ?_)
  obtain rfl : x_379 = 32768 := ex_379.trans (by decide)
  refine lv_if_eq (tgt := 293) hx hb dX8_init_280 (by decide) (fun c_380 => absurd c_380 (by decide)) (fun c_380 => ?_)
  refine lv_iload_n hx hb dX8_init_283 rfl (lv_at hl 1 rfl) ?_
  refine lv_iconst (v := 1) hx hb dX8_init_284 (by decide) ?_
  refine lv_ishl hx hb dX8_init_285 ?_
  refine lv_topi (fun x_381 ex_381 => ?_)
  obtain rfl : x_381 = 483526 := ex_381.trans (by decide)
  refine lv_sipush (v := 4129) hx hb dX8_init_286 (by decide) ?_
  refine lv_ixor hx hb dX8_init_289 ?_
  refine lv_topi (fun x_382 ex_382 => ?_)
  obtain rfl : x_382 = 487655 := ex_382.trans (by decide)
  refine lv_goto (tgt := 296) hx hb dX8_init_290 (by decide) ?_
  refine lv_istore_n (lv' := [(2, .int 487655), (3, .int 2), (1, .int 14), (0, .ref mo)]) hx hb dX8_init_296 rfl hl (by decide) rfl (fun ls hl => ?_)
  refine lv_iinc (v := 3) (lv' := [(3, .int 3), (2, .int 487655), (1, .int 14), (0, .ref mo)]) hx hb dX8_init_297 hl (k := 1) rfl (by decide) (by decide) rfl (fun ls hl => ?_)
  refine lv_goto (tgt := 271) hx hb dX8_init_300 (by decide) ?_
  refine lv_iload_n hx hb dX8_init_271 rfl (lv_at hl 0 rfl) ?_
  refine lv_iconst (v := 4) hx hb dX8_init_272 (by decide) ?_
  refine lv_icmp_ge (tgt := 303) hx hb dX8_init_273 (by decide) (fun c_383 => absurd c_383 (by decide)) (fun c_383 => ?_)
  refine lv_iload_n hx hb dX8_init_276 rfl (lv_at hl 1 rfl) ?_
  refine lv_ldc (v := 32768) hx hb hown (hts (.constant RX8 130 (32768)) (by decide +kernel)) dX8_init_277 ?_
  refine lv_iand hx hb dX8_init_279 ?_
  refine lv_topi (fun x_384 ex_384 => ?_)
  obtain rfl : x_384 = 0 := ex_384.trans (by decide)
  refine lv_if_eq (tgt := 293) hx hb dX8_init_280 (by decide) (fun c_385 => ?_) (fun c_385 => absurd (by decide) c_385)
  refine lv_iload_n hx hb dX8_init_293 rfl (lv_at hl 1 rfl) ?_
  refine lv_iconst (v := 1) hx hb dX8_init_294 (by decide) ?_
  refine lv_ishl hx hb dX8_init_295 ?_
  refine lv_topi (fun x_386 ex_386 => ?_)
  obtain rfl : x_386 = 975310 := ex_386.trans (by decide)
  refine lv_istore_n (lv' := [(2, .int 975310), (3, .int 3), (1, .int 14), (0, .ref mo)]) hx hb dX8_init_296 rfl hl (by decide) rfl (fun ls hl => ?_)
  refine lv_iinc (v := 4) (lv' := [(3, .int 4), (2, .int 975310), (1, .int 14), (0, .ref mo)]) hx hb dX8_init_297 hl (k := 1) rfl (by decide) (by decide) rfl (fun ls hl => ?_)
  refine lv_goto (tgt := 271) hx hb dX8_init_300 (by decide) ?_
  refine lv_iload_n hx hb dX8_init_271 rfl (lv_at hl 0 rfl) ?_
  refine lv_iconst (v := 4) hx hb dX8_init_272 (by decide) ?_
  refine lv_icmp_ge (tgt := 303) hx hb dX8_init_273 (by decide) (fun c_387 => ?_) (fun c_387 => absurd (by decide) c_387)
  refine lv_aload_n hx hb dX8_init_303 rfl (lv_at hl 3 rfl) ?_
  refine va_get (D := (dC, dI)) (ci := 6) (v := .ref q_1) (C := RX8) (T := TX8) (N := 39) hx hb hts iX8 hown hK hP 0 rfl rfl 1 (by decide) (hts (.fieldLink RX8 13 "BatchTransferModel" "nibbles" "[I") (by decide +kernel)) (fun _ h9 => h9) rfl dX8_init_304 ?_
  refine lv_iload_n hx hb dX8_init_307 rfl (lv_at hl 2 rfl) ?_
  refine lv_iload_n hx hb dX8_init_308 rfl (lv_at hl 1 rfl) ?_
  refine lv_ldc (v := 65535) hx hb hown (hts (.constant RX8 131 (65535)) (by decide +kernel)) dX8_init_309 ?_
  refine lv_iand hx hb dX8_init_311 ?_
  refine lv_topi (fun x_388 ex_388 => ?_)
  obtain rfl : x_388 = 57806 := ex_388.trans (by decide)
  have h_389 : vp_in (14) 16 := by unfold vp_in; decide +kernel
  refine va_iast hx hb hK hP hD hS 1 0 rfl rfl h_389 dX8_init_312 (fun H locs hP hD hS => ?_)
  obtain ⟨f_390, ef_390⟩ : ∃ g : Nat → Int32, g = upd f_365 (14 : Int32).toNatClampNeg 57806 := ⟨_, rfl⟩
  have hP : va_P (dC, dI) vwCl [(mo, .inr (6, [.int 0, .ref q_1, .ref q_3, .int 0, .int 0, .ref q_5, .ref q_7, .ref q_9, .ref q_11, .int 0, .ref q_13, .ref q_15, .ref q_17, .ref q_19, .ref q_21, .int 0, .int 0, .int 0, .ref q_23, .int 0, .int 0, .int 0, .int 0, .int 0, .int 0, .int 0, .int 0, .int 0, .int 0, .int 0, .int 0, .int 0, .int 0, .int 0, .ref q_25, .ref q_27, .ref q_29, .ref q_31, .int 0])), (q_1, .inl (cA_2, 16, .inl f_390)), (q_3, .inl (cA_4, 3100, .inl (fun _ => 0))), (q_5, .inl (cA_6, 96, .inl (fun _ => 0))), (q_7, .inl (cA_8, 8, .inl (fun _ => 0))), (q_9, .inl (cA_10, 24000, .inl (fun _ => 0))), (q_11, .inl (cA_12, 8, .inl (fun _ => 0))), (q_13, .inl (cA_14, 300, .inl (fun _ => 0))), (q_15, .inl (cA_16, 300, .inl (fun _ => 0))), (q_17, .inl (cA_18, 300, .inl (fun _ => 0))), (q_19, .inl (cA_20, 300, .inl (fun _ => 0))), (q_21, .inl (cA_22, 300, .inl (fun _ => 0))), (q_23, .inl (cA_24, 1040, .inl (fun _ => 0))), (q_25, .inl (cA_26, 96, .inl (fun _ => 0))), (q_27, .inl (cA_28, 8, .inl (fun _ => 0))), (q_29, .inl (cA_30, 28000, .inl (fun _ => 0))), (q_31, .inl (cA_32, 8, .inl (fun _ => 0)))] H := by rw [ef_390]; exact hP
  have hD : va_D A [(mo, .inr (6, [.int 0, .ref q_1, .ref q_3, .int 0, .int 0, .ref q_5, .ref q_7, .ref q_9, .ref q_11, .int 0, .ref q_13, .ref q_15, .ref q_17, .ref q_19, .ref q_21, .int 0, .int 0, .int 0, .ref q_23, .int 0, .int 0, .int 0, .int 0, .int 0, .int 0, .int 0, .int 0, .int 0, .int 0, .int 0, .int 0, .int 0, .int 0, .int 0, .ref q_25, .ref q_27, .ref q_29, .ref q_31, .int 0])), (q_1, .inl (cA_2, 16, .inl f_390)), (q_3, .inl (cA_4, 3100, .inl (fun _ => 0))), (q_5, .inl (cA_6, 96, .inl (fun _ => 0))), (q_7, .inl (cA_8, 8, .inl (fun _ => 0))), (q_9, .inl (cA_10, 24000, .inl (fun _ => 0))), (q_11, .inl (cA_12, 8, .inl (fun _ => 0))), (q_13, .inl (cA_14, 300, .inl (fun _ => 0))), (q_15, .inl (cA_16, 300, .inl (fun _ => 0))), (q_17, .inl (cA_18, 300, .inl (fun _ => 0))), (q_19, .inl (cA_20, 300, .inl (fun _ => 0))), (q_21, .inl (cA_22, 300, .inl (fun _ => 0))), (q_23, .inl (cA_24, 1040, .inl (fun _ => 0))), (q_25, .inl (cA_26, 96, .inl (fun _ => 0))), (q_27, .inl (cA_28, 8, .inl (fun _ => 0))), (q_29, .inl (cA_30, 28000, .inl (fun _ => 0))), (q_31, .inl (cA_32, 8, .inl (fun _ => 0)))] := by rw [ef_390]; exact hD
  refine lv_iinc (v := 15) (lv' := [(1, .int 15), (3, .int 4), (2, .int 975310), (0, .ref mo)]) hx hb dX8_init_313 hl (k := 2) rfl (by decide) (by decide) rfl (fun ls hl => ?_)
  refine lv_goto (tgt := 258) hx hb dX8_init_316 (by decide) ?_
  refine lv_iload_n hx hb dX8_init_258 rfl (lv_at hl 0 rfl) ?_
  refine lv_bipush (v := 16) hx hb dX8_init_259 (by decide) ?_
  refine lv_icmp_ge (tgt := 319) hx hb dX8_init_261 (by decide) (fun c_391 => absurd c_391 (by decide)) (fun c_391 => ?_)
  refine lv_iload_n hx hb dX8_init_264 rfl (lv_at hl 0 rfl) ?_
  refine lv_bipush (v := 12) hx hb dX8_init_265 (by decide) ?_
  refine lv_ishl hx hb dX8_init_267 ?_
  refine lv_topi (fun x_392 ex_392 => ?_)
  obtain rfl : x_392 = 61440 := ex_392.trans (by decide)
  refine lv_istore_n (lv' := [(2, .int 61440), (1, .int 15), (3, .int 4), (0, .ref mo)]) hx hb dX8_init_268 rfl hl (by decide) rfl (fun ls hl => ?_)
  refine lv_iconst (v := 0) hx hb dX8_init_269 (by decide) ?_
  refine lv_istore_n (lv' := [(3, .int 0), (2, .int 61440), (1, .int 15), (0, .ref mo)]) hx hb dX8_init_270 rfl hl (by decide) rfl (fun ls hl => ?_)
  refine lv_iload_n hx hb dX8_init_271 rfl (lv_at hl 0 rfl) ?_
  refine lv_iconst (v := 4) hx hb dX8_init_272 (by decide) ?_
  refine lv_icmp_ge (tgt := 303) hx hb dX8_init_273 (by decide) (fun c_393 => absurd c_393 (by decide)) (fun c_393 => ?_)
  refine lv_iload_n hx hb dX8_init_276 rfl (lv_at hl 1 rfl) ?_
  refine lv_ldc (v := 32768) hx hb hown (hts (.constant RX8 130 (32768)) (by decide +kernel)) dX8_init_277 ?_
  refine lv_iand hx hb dX8_init_279 ?_
  refine lv_topi (fun x_394 ex_394 => ?_)
  obtain rfl : x_394 = 32768 := ex_394.trans (by decide)
  refine lv_if_eq (tgt := 293) hx hb dX8_init_280 (by decide) (fun c_395 => absurd c_395 (by decide)) (fun c_395 => ?_)
  refine lv_iload_n hx hb dX8_init_283 rfl (lv_at hl 1 rfl) ?_
  refine lv_iconst (v := 1) hx hb dX8_init_284 (by decide) ?_
  refine lv_ishl hx hb dX8_init_285 ?_
  refine lv_topi (fun x_396 ex_396 => ?_)
  obtain rfl : x_396 = 122880 := ex_396.trans (by decide)
  refine lv_sipush (v := 4129) hx hb dX8_init_286 (by decide) ?_
  refine lv_ixor hx hb dX8_init_289 ?_
  refine lv_topi (fun x_397 ex_397 => ?_)
  obtain rfl : x_397 = 127009 := ex_397.trans (by decide)
  refine lv_goto (tgt := 296) hx hb dX8_init_290 (by decide) ?_
  refine lv_istore_n (lv' := [(2, .int 127009), (3, .int 0), (1, .int 15), (0, .ref mo)]) hx hb dX8_init_296 rfl hl (by decide) rfl (fun ls hl => ?_)
  refine lv_iinc (v := 1) (lv' := [(3, .int 1), (2, .int 127009), (1, .int 15), (0, .ref mo)]) hx hb dX8_init_297 hl (k := 1) rfl (by decide) (by decide) rfl (fun ls hl => ?_)
  refine lv_goto (tgt := 271) hx hb dX8_init_300 (by decide) ?_
  refine lv_iload_n hx hb dX8_init_271 rfl (lv_at hl 0 rfl) ?_
  refine lv_iconst (v := 4) hx hb dX8_init_272 (by decide) ?_
  refine lv_icmp_ge (tgt := 303) hx hb dX8_init_273 (by decide) (fun c_398 => absurd c_398 (by decide)) (fun c_398 => ?_)
  refine lv_iload_n hx hb dX8_init_276 rfl (lv_at hl 1 rfl) ?_
  refine lv_ldc (v := 32768) hx hb hown (hts (.constant RX8 130 (32768)) (by decide +kernel)) dX8_init_277 ?_
  refine lv_iand hx hb dX8_init_279 ?_
  refine lv_topi (fun x_399 ex_399 => ?_)
  obtain rfl : x_399 = 32768 := ex_399.trans (by decide)
  refine lv_if_eq (tgt := 293) hx hb dX8_init_280 (by decide) (fun c_400 => absurd c_400 (by decide)) (fun c_400 => ?_)
  refine lv_iload_n hx hb dX8_init_283 rfl (lv_at hl 1 rfl) ?_
  refine lv_iconst (v := 1) hx hb dX8_init_284 (by decide) ?_
  refine lv_ishl hx hb dX8_init_285 ?_
  refine lv_topi (fun x_401 ex_401 => ?_)
  obtain rfl : x_401 = 254018 := ex_401.trans (by decide)
  refine lv_sipush (v := 4129) hx hb dX8_init_286 (by decide) ?_
  refine lv_ixor hx hb dX8_init_289 ?_
  refine lv_topi (fun x_402 ex_402 => ?_)
  obtain rfl : x_402 = 258147 := ex_402.trans (by decide)
  refine lv_goto (tgt := 296) hx hb dX8_init_290 (by decide) ?_
  refine lv_istore_n (lv' := [(2, .int 258147), (3, .int 1), (1, .int 15), (0, .ref mo)]) hx hb dX8_init_296 rfl hl (by decide) rfl (fun ls hl => ?_)
  refine lv_iinc (v := 2) (lv' := [(3, .int 2), (2, .int 258147), (1, .int 15), (0, .ref mo)]) hx hb dX8_init_297 hl (k := 1) rfl (by decide) (by decide) rfl (fun ls hl => ?_)
  refine lv_goto (tgt := 271) hx hb dX8_init_300 (by decide) ?_
  refine lv_iload_n hx hb dX8_init_271 rfl (lv_at hl 0 rfl) ?_
  refine lv_iconst (v := 4) hx hb dX8_init_272 (by decide) ?_
  refine lv_icmp_ge (tgt := 303) hx hb dX8_init_273 (by decide) (fun c_403 => absurd c_403 (by decide)) (fun c_403 => ?_)
  refine lv_iload_n hx hb dX8_init_276 rfl (lv_at hl 1 rfl) ?_
  refine lv_ldc (v := 32768) hx hb hown (hts (.constant RX8 130 (32768)) (by decide +kernel)) dX8_init_277 ?_
  refine lv_iand hx hb dX8_init_279 ?_
  refine lv_topi (fun x_404 ex_404 => ?_)
  obtain rfl : x_404 = 32768 := ex_404.trans (by decide)
  refine lv_if_eq (tgt := 293) hx hb dX8_init_280 (by decide) (fun c_405 => absurd c_405 (by decide)) (fun c_405 => ?_)
  refine lv_iload_n hx hb dX8_init_283 rfl (lv_at hl 1 rfl) ?_
  refine lv_iconst (v := 1) hx hb dX8_init_284 (by decide) ?_
  refine lv_ishl hx hb dX8_init_285 ?_
  refine lv_topi (fun x_406 ex_406 => ?_)
  obtain rfl : x_406 = 516294 := ex_406.trans (by decide)
  refine lv_sipush (v := 4129) hx hb dX8_init_286 (by decide) ?_
  refine lv_ixor hx hb dX8_init_289 ?_
  refine lv_topi (fun x_407 ex_407 => ?_)
  obtain rfl : x_407 = 520423 := ex_407.trans (by decide)
  refine lv_goto (tgt := 296) hx hb dX8_init_290 (by decide) ?_
  refine lv_istore_n (lv' := [(2, .int 520423), (3, .int 2), (1, .int 15), (0, .ref mo)]) hx hb dX8_init_296 rfl hl (by decide) rfl (fun ls hl => ?_)
  refine lv_iinc (v := 3) (lv' := [(3, .int 3), (2, .int 520423), (1, .int 15), (0, .ref mo)]) hx hb dX8_init_297 hl (k := 1) rfl (by decide) (by decide) rfl (fun ls hl => ?_)
  refine lv_goto (tgt := 271) hx hb dX8_init_300 (by decide) ?_
  refine lv_iload_n hx hb dX8_init_271 rfl (lv_at hl 0 rfl) ?_
  refine lv_iconst (v := 4) hx hb dX8_init_272 (by decide) ?_
  refine lv_icmp_ge (tgt := 303) hx hb dX8_init_273 (by decide) (fun c_408 => absurd c_408 (by decide)) (fun c_408 => ?_)
  refine lv_iload_n hx hb dX8_init_276 rfl (lv_at hl 1 rfl) ?_
  refine lv_ldc (v := 32768) hx hb hown (hts (.constant RX8 130 (32768)) (by decide +kernel)) dX8_init_277 ?_
  refine lv_iand hx hb dX8_init_279 ?_
  refine lv_topi (fun x_409 ex_409 => ?_)
  obtain rfl : x_409 = 32768 := ex_409.trans (by decide)
  refine lv_if_eq (tgt := 293) hx hb dX8_init_280 (by decide) (fun c_410 => absurd c_410 (by decide)) (fun c_410 => ?_)
  refine lv_iload_n hx hb dX8_init_283 rfl (lv_at hl 1 rfl) ?_
  refine lv_iconst (v := 1) hx hb dX8_init_284 (by decide) ?_
  refine lv_ishl hx hb dX8_init_285 ?_
  refine lv_topi (fun x_411 ex_411 => ?_)
  obtain rfl : x_411 = 1040846 := ex_411.trans (by decide)
  refine lv_sipush (v := 4129) hx hb dX8_init_286 (by decide) ?_
  refine lv_ixor hx hb dX8_init_289 ?_
  refine lv_topi (fun x_412 ex_412 => ?_)
  obtain rfl : x_412 = 1044975 := ex_412.trans (by decide)
  refine lv_goto (tgt := 296) hx hb dX8_init_290 (by decide) ?_
  refine lv_istore_n (lv' := [(2, .int 1044975), (3, .int 3), (1, .int 15), (0, .ref mo)]) hx hb dX8_init_296 rfl hl (by decide) rfl (fun ls hl => ?_)
  refine lv_iinc (v := 4) (lv' := [(3, .int 4), (2, .int 1044975), (1, .int 15), (0, .ref mo)]) hx hb dX8_init_297 hl (k := 1) rfl (by decide) (by decide) rfl (fun ls hl => ?_)
  refine lv_goto (tgt := 271) hx hb dX8_init_300 (by decide) ?_
  refine lv_iload_n hx hb dX8_init_271 rfl (lv_at hl 0 rfl) ?_
  refine lv_iconst (v := 4) hx hb dX8_init_272 (by decide) ?_
  refine lv_icmp_ge (tgt := 303) hx hb dX8_init_273 (by decide) (fun c_413 => ?_) (fun c_413 => absurd (by decide) c_413)
  refine lv_aload_n hx hb dX8_init_303 rfl (lv_at hl 3 rfl) ?_
  refine va_get (D := (dC, dI)) (ci := 6) (v := .ref q_1) (C := RX8) (T := TX8) (N := 39) hx hb hts iX8 hown hK hP 0 rfl rfl 1 (by decide) (hts (.fieldLink RX8 13 "BatchTransferModel" "nibbles" "[I") (by decide +kernel)) (fun _ h9 => h9) rfl dX8_init_304 ?_
  refine lv_iload_n hx hb dX8_init_307 rfl (lv_at hl 2 rfl) ?_
  refine lv_iload_n hx hb dX8_init_308 rfl (lv_at hl 1 rfl) ?_
  refine lv_ldc (v := 65535) hx hb hown (hts (.constant RX8 131 (65535)) (by decide +kernel)) dX8_init_309 ?_
  refine lv_iand hx hb dX8_init_311 ?_
  refine lv_topi (fun x_414 ex_414 => ?_)
  obtain rfl : x_414 = 61935 := ex_414.trans (by decide)
  have h_415 : vp_in (15) 16 := by unfold vp_in; decide +kernel
  refine va_iast hx hb hK hP hD hS 1 0 rfl rfl h_415 dX8_init_312 (fun H locs hP hD hS => ?_)
  obtain ⟨f_416, ef_416⟩ : ∃ g : Nat → Int32, g = upd f_390 (15 : Int32).toNatClampNeg 61935 := ⟨_, rfl⟩
  have hP : va_P (dC, dI) vwCl [(mo, .inr (6, [.int 0, .ref q_1, .ref q_3, .int 0, .int 0, .ref q_5, .ref q_7, .ref q_9, .ref q_11, .int 0, .ref q_13, .ref q_15, .ref q_17, .ref q_19, .ref q_21, .int 0, .int 0, .int 0, .ref q_23, .int 0, .int 0, .int 0, .int 0, .int 0, .int 0, .int 0, .int 0, .int 0, .int 0, .int 0, .int 0, .int 0, .int 0, .int 0, .ref q_25, .ref q_27, .ref q_29, .ref q_31, .int 0])), (q_1, .inl (cA_2, 16, .inl f_416)), (q_3, .inl (cA_4, 3100, .inl (fun _ => 0))), (q_5, .inl (cA_6, 96, .inl (fun _ => 0))), (q_7, .inl (cA_8, 8, .inl (fun _ => 0))), (q_9, .inl (cA_10, 24000, .inl (fun _ => 0))), (q_11, .inl (cA_12, 8, .inl (fun _ => 0))), (q_13, .inl (cA_14, 300, .inl (fun _ => 0))), (q_15, .inl (cA_16, 300, .inl (fun _ => 0))), (q_17, .inl (cA_18, 300, .inl (fun _ => 0))), (q_19, .inl (cA_20, 300, .inl (fun _ => 0))), (q_21, .inl (cA_22, 300, .inl (fun _ => 0))), (q_23, .inl (cA_24, 1040, .inl (fun _ => 0))), (q_25, .inl (cA_26, 96, .inl (fun _ => 0))), (q_27, .inl (cA_28, 8, .inl (fun _ => 0))), (q_29, .inl (cA_30, 28000, .inl (fun _ => 0))), (q_31, .inl (cA_32, 8, .inl (fun _ => 0)))] H := by rw [ef_416]; exact hP
  have hD : va_D A [(mo, .inr (6, [.int 0, .ref q_1, .ref q_3, .int 0, .int 0, .ref q_5, .ref q_7, .ref q_9, .ref q_11, .int 0, .ref q_13, .ref q_15, .ref q_17, .ref q_19, .ref q_21, .int 0, .int 0, .int 0, .ref q_23, .int 0, .int 0, .int 0, .int 0, .int 0, .int 0, .int 0, .int 0, .int 0, .int 0, .int 0, .int 0, .int 0, .int 0, .int 0, .ref q_25, .ref q_27, .ref q_29, .ref q_31, .int 0])), (q_1, .inl (cA_2, 16, .inl f_416)), (q_3, .inl (cA_4, 3100, .inl (fun _ => 0))), (q_5, .inl (cA_6, 96, .inl (fun _ => 0))), (q_7, .inl (cA_8, 8, .inl (fun _ => 0))), (q_9, .inl (cA_10, 24000, .inl (fun _ => 0))), (q_11, .inl (cA_12, 8, .inl (fun _ => 0))), (q_13, .inl (cA_14, 300, .inl (fun _ => 0))), (q_15, .inl (cA_16, 300, .inl (fun _ => 0))), (q_17, .inl (cA_18, 300, .inl (fun _ => 0))), (q_19, .inl (cA_20, 300, .inl (fun _ => 0))), (q_21, .inl (cA_22, 300, .inl (fun _ => 0))), (q_23, .inl (cA_24, 1040, .inl (fun _ => 0))), (q_25, .inl (cA_26, 96, .inl (fun _ => 0))), (q_27, .inl (cA_28, 8, .inl (fun _ => 0))), (q_29, .inl (cA_30, 28000, .inl (fun _ => 0))), (q_31, .inl (cA_32, 8, .inl (fun _ => 0)))] := by rw [ef_416]; exact hD
  refine lv_iinc (v := 16) (lv' := [(1, .int 16), (3, .int 4), (2, .int 1044975), (0, .ref mo)]) hx hb dX8_init_313 hl (k := 2) rfl (by decide) (by decide) rfl (fun ls hl => ?_)
  refine lv_goto (tgt := 258) hx hb dX8_init_316 (by decide) ?_
  refine lv_iload_n hx hb dX8_init_258 rfl (lv_at hl 0 rfl) ?_
  refine lv_bipush (v := 16) hx hb dX8_init_259 (by decide) ?_
  refine lv_icmp_ge (tgt := 319) hx hb dX8_init_261 (by decide) (fun c_417 => ?_) (fun c_417 => absurd (by decide) c_417)
  have hP9 := hP.sub (ws' := [(mo, .inr (6, [.int 0, .ref q_1, .ref q_3, .int 0, .int 0, .ref q_5, .ref q_7, .ref q_9, .ref q_11, .int 0, .ref q_13, .ref q_15, .ref q_17, .ref q_19, .ref q_21, .int 0, .int 0, .int 0, .ref q_23, .int 0, .int 0, .int 0, .int 0, .int 0, .int 0, .int 0, .int 0, .int 0, .int 0, .int 0, .int 0, .int 0, .int 0, .int 0, .ref q_25, .ref q_27, .ref q_29, .ref q_31, .int 0])), (q_1, .inl (cA_2, 16, .inl f_416)), (q_3, .inl (cA_4, 3100, .inl (fun _ => 0))), (q_5, .inl (cA_6, 96, .inl (fun _ => 0))), (q_7, .inl (cA_8, 8, .inl (fun _ => 0))), (q_9, .inl (cA_10, 24000, .inl (fun _ => 0))), (q_11, .inl (cA_12, 8, .inl (fun _ => 0))), (q_13, .inl (cA_14, 300, .inl (fun _ => 0))), (q_15, .inl (cA_16, 300, .inl (fun _ => 0))), (q_17, .inl (cA_18, 300, .inl (fun _ => 0))), (q_19, .inl (cA_20, 300, .inl (fun _ => 0))), (q_21, .inl (cA_22, 300, .inl (fun _ => 0))), (q_23, .inl (cA_24, 1040, .inl (fun _ => 0))), (q_25, .inl (cA_26, 96, .inl (fun _ => 0))), (q_27, .inl (cA_28, 8, .inl (fun _ => 0))), (q_29, .inl (cA_30, 28000, .inl (fun _ => 0))), (q_31, .inl (cA_32, 8, .inl (fun _ => 0)))]) [0, 1, 2, 3, 4, 5, 6, 7, 8, 9, 10, 11, 12, 13, 14, 15, 16] rfl
  have hD9 := hD.sub (ws' := [(mo, .inr (6, [.int 0, .ref q_1, .ref q_3, .int 0, .int 0, .ref q_5, .ref q_7, .ref q_9, .ref q_11, .int 0, .ref q_13, .ref q_15, .ref q_17, .ref q_19, .ref q_21, .int 0, .int 0, .int 0, .ref q_23, .int 0, .int 0, .int 0, .int 0, .int 0, .int 0, .int 0, .int 0, .int 0, .int 0, .int 0, .int 0, .int 0, .int 0, .int 0, .ref q_25, .ref q_27, .ref q_29, .ref q_31, .int 0])), (q_1, .inl (cA_2, 16, .inl f_416)), (q_3, .inl (cA_4, 3100, .inl (fun _ => 0))), (q_5, .inl (cA_6, 96, .inl (fun _ => 0))), (q_7, .inl (cA_8, 8, .inl (fun _ => 0))), (q_9, .inl (cA_10, 24000, .inl (fun _ => 0))), (q_11, .inl (cA_12, 8, .inl (fun _ => 0))), (q_13, .inl (cA_14, 300, .inl (fun _ => 0))), (q_15, .inl (cA_16, 300, .inl (fun _ => 0))), (q_17, .inl (cA_18, 300, .inl (fun _ => 0))), (q_19, .inl (cA_20, 300, .inl (fun _ => 0))), (q_21, .inl (cA_22, 300, .inl (fun _ => 0))), (q_23, .inl (cA_24, 1040, .inl (fun _ => 0))), (q_25, .inl (cA_26, 96, .inl (fun _ => 0))), (q_27, .inl (cA_28, 8, .inl (fun _ => 0))), (q_29, .inl (cA_30, 28000, .inl (fun _ => 0))), (q_31, .inl (cA_32, 8, .inl (fun _ => 0)))]) [0, 1, 2, 3, 4, 5, 6, 7, 8, 9, 10, 11, 12, 13, 14, 15, 16] (by decide) rfl
  have hK9 := hK.sub (tys' := [(cA_2, .int), (cA_4, .byte), (cA_6, .byte), (cA_8, .int), (cA_10, .byte), (cA_12, .int), (cA_14, .int), (cA_16, .int), (cA_18, .int), (cA_20, .int), (cA_22, .int), (cA_24, .byte), (cA_26, .byte), (cA_28, .int), (cA_30, .byte), (cA_32, .int)]) [0, 1, 2, 3, 4, 5, 6, 7, 8, 9, 10, 11, 12, 13, 14, 15] rfl
  exact W.vret hx hb hr (fun t ht hW => ⟨⟨(f_416), rfl, trivial, q_1, q_3, q_5, q_7, q_9, q_11, q_13, q_15, q_17, q_19, q_21, q_23, q_25, q_27, q_29, q_31, cA_2, cA_4, cA_6, cA_8, cA_10, cA_12, cA_14, cA_16, cA_18, cA_20, cA_22, cA_24, cA_26, cA_28, cA_30, cA_32, by rw [ht]; exact hP9, va_K.moved hW.alike hK9, hD9⟩, hS.F ht⟩) hS.2.2 dX8_init_319
