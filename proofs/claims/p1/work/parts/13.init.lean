set_option maxHeartbeats 4000000 in
set_option maxRecDepth 100000 in
theorem k_side (l : Launch) (dC : Nat → ClassId) (dI : Nat → Nat → Nat) (o9 : Nat) (sz : Nat) : Met l yX3_init wsX3_init ({ frames := 1, cells := 0, slots := 0, locals := 12 }) (va_Pc [.ref o9] (fun U => U.heap.size = sz ∧ va_P (dC, dI) vwCl [] U.heap ∧ va_K (dC, dI) vwCl [] U ∧ va_D (fun _ => True) [])) (va_Qv (fun (_ : Unit) => True) (fun (_ : Unit) (_ : State) => True) (va_A [] sz)) 0 0 (va_A [] sz) := by
  refine Met.ofW (cc := cX3_init) (maxL := 1) (ret := none) (by decide) rfl ?_
  intro p e s m args below meth c s₁ B hml hv
  obtain ⟨rfl, hsz, hP, hK, hD0⟩ := hv
  have hx := B.exec
  have hb := B.bytes
  have hr := B.returns
  have hts := atoms_spec (ws := wsX3_init) B.pre
  have hown : s.vm.findClass RX3 = some m.cls := findClass_of_methodNamed B.named
  have hlocks := B.notSynchronized
  have hin : meth.name = "<init>" := (name_of_methodNamed B.named B.method).1
  subst hsz
  have hD := hD0.self (sz := s.heap.size)
  generalize hAe : va_A [] s.heap.size = A at hD ⊢
  have hA : ∀ q : Nat, s.heap.size ≤ q → A q := fun q h => by rw [← hAe]; exact Or.inr h
  have hS : va_S A s.heap s.heap [] := va_S.rf
  have hP : va_P (dC, dI) vwCl [] s.heap := hP
  have hl := lv_entry ([.ref o9]) (n := 1) (Nat.le_of_ble_eq_true rfl)
  rw [lg_entry_eq]
  generalize (lg_sl ([.ref o9]) ++ List.replicate (1 - (lg_sl ([.ref o9])).length) Slot.unset).toArray = ls at hl ⊢
  have hl : lv_has ls 1 [(0, .ref o9)] := hl
  refine lv_aload_n hx hb dX3_init_0 rfl (lv_at hl 0 rfl) ?_
  refine W.objInit hx hb hown (hts (.methodLink RX3 3 objectInit) (by decide +kernel)) (hts (.instanceMethod objectInit) (by decide +kernel)) (hts (.code objectInit ⟨#[0xb1]⟩ 1 none) (by decide +kernel)) rfl (by rw [hml]; exact hl.1) rfl dX3_init_1 (Nat.le_of_ble_eq_true rfl) (Nat.le_of_ble_eq_true rfl) ?_
  refine W.eq (g2 := F0 m 4 ls []) rfl ?_
  exact W.vret hx hb hr (fun t ht hW => ⟨⟨(), rfl, trivial, trivial⟩, hS.F ht⟩) hS.2.2 dX3_init_4

set_option maxHeartbeats 4000000 in
set_option maxRecDepth 100000 in
theorem k_shelf24000 (l : Launch) (dC : Nat → ClassId) (dI : Nat → Nat → Nat) (fl : Nat) (sz : Nat) : Met l yX2_init wsX2_init ({ frames := 1, cells := 5, slots := 24120, locals := 12 }) (va_Pc [.ref fl, .int 24000] (fun U => U.heap.size = sz ∧ va_P (dC, dI) vwCl [(fl, .inr (2, [.null, .null, .null, .null, .null, .int 0]))] U.heap ∧ va_K (dC, dI) vwCl [] U ∧ va_D (fun _ => True) [(fl, .inr (2, [.null, .null, .null, .null, .null, .int 0]))])) (va_Qv (fun (_ : Unit) => True) (fun (_ : Unit) (t : State) => ∃ (fn : Nat), ∃ (fk : Nat), ∃ (fd : Nat), ∃ (fs : Nat), ∃ (fz : Nat), ∃ (c1 : ClassId), ∃ (c2 : ClassId), ∃ (c3 : ClassId), ∃ (c4 : ClassId), ∃ (c5 : ClassId), va_P (dC, dI) vwCl [(fl, .inr (2, [.ref fn, .ref fk, .ref fd, .ref fs, .ref fz, .int 0])), (fn, .inl (c1, 96, .inl (fun _ => 0))), (fk, .inl (c2, 8, .inl (fun _ => 0))), (fd, .inl (c3, 24000, .inl (fun _ => 0))), (fs, .inl (c4, 8, .inl (fun _ => 0))), (fz, .inl (c5, 8, .inl (fun _ => 0)))] t.heap ∧ va_K (dC, dI) vwCl [(c1, .byte), (c2, .int), (c3, .byte), (c4, .int), (c5, .int)] t ∧ va_D (va_A [(fl, .inr (2, [.null, .null, .null, .null, .null, .int 0]))] sz) [(fl, .inr (2, [.ref fn, .ref fk, .ref fd, .ref fs, .ref fz, .int 0])), (fn, .inl (c1, 96, .inl (fun _ => 0))), (fk, .inl (c2, 8, .inl (fun _ => 0))), (fd, .inl (c3, 24000, .inl (fun _ => 0))), (fs, .inl (c4, 8, .inl (fun _ => 0))), (fz, .inl (c5, 8, .inl (fun _ => 0)))]) (va_A [(fl, .inr (2, [.null, .null, .null, .null, .null, .int 0]))] sz)) 5 24120 (va_A [(fl, .inr (2, [.null, .null, .null, .null, .null, .int 0]))] sz) := by
  refine Met.ofW (cc := cX2_init) (maxL := 2) (ret := none) (by decide) rfl ?_
  intro p e s m args below meth c s₁ B hml hv
  obtain ⟨rfl, hsz, hP, hK, hD0⟩ := hv
  have hx := B.exec
  have hb := B.bytes
  have hr := B.returns
  have hts := atoms_spec (ws := wsX2_init) B.pre
  have hown : s.vm.findClass RX2 = some m.cls := findClass_of_methodNamed B.named
  have hlocks := B.notSynchronized
  have hin : meth.name = "<init>" := (name_of_methodNamed B.named B.method).1
  subst hsz
  have hD := hD0.self (sz := s.heap.size)
  generalize hAe : va_A [(fl, .inr (2, [.null, .null, .null, .null, .null, .int 0]))] s.heap.size = A at hD ⊢
  have hA : ∀ q : Nat, s.heap.size ≤ q → A q := fun q h => by rw [← hAe]; exact Or.inr h
  have hS : va_S A s.heap s.heap [] := va_S.rf
  have hP : va_P (dC, dI) vwCl [(fl, .inr (2, [.null, .null, .null, .null, .null, .int 0]))] s.heap := hP
  have hl := lv_entry ([.ref fl, .int 24000]) (n := 2) (Nat.le_of_ble_eq_true rfl)
  rw [lg_entry_eq]
  generalize (lg_sl ([.ref fl, .int 24000]) ++ List.replicate (2 - (lg_sl ([.ref fl, .int 24000])).length) Slot.unset).toArray = ls at hl ⊢
  have hl : lv_has ls 2 [(0, .ref fl), (1, .int 24000)] := hl
  have iX2 : ∀ w ∈ wsX20, w ∈ wsX2_init := by decide +kernel
  refine lv_aload_n hx hb dX2_init_0 rfl (lv_at hl 0 rfl) ?_
  refine W.objInit hx hb hown (hts (.methodLink RX2 3 objectInit) (by decide +kernel)) (hts (.instanceMethod objectInit) (by decide +kernel)) (hts (.code objectInit ⟨#[0xb1]⟩ 1 none) (by decide +kernel)) rfl (by rw [hml]; exact hl.1) rfl dX2_init_1 (Nat.le_of_ble_eq_true rfl) (Nat.le_of_ble_eq_true rfl) ?_
  refine W.eq (g2 := F0 m 4 ls []) rfl ?_
  refine lv_aload_n hx hb dX2_init_4 rfl (lv_at hl 0 rfl) ?_
  refine lv_bipush (v := 96) hx hb dX2_init_5 (by decide) ?_
  refine va_newa (atype := .byte) (ty := .byte) hx hb (hts (.arrayClass .byte) (by decide +kernel)) rfl hK hP hD hS hA (n := 96) (N' := 96) (a0 := (96, .inl (fun _ => 0))) (nz_byte 96) (by decide) (by decide +kernel) (nb_byte 96 (by omega)) (show 0 + 1 ≤ 5 by omega) (show 0 + 96 ≤ 24120 by omega) dX2_init_7 (fun q_1 cA_2 H hK hP hD hS => ?_)
  refine W.widen (k := 1) (n := 96) (by omega) (by omega) ?_
  have hK : va_K (dC, dI) vwCl [(cA_2, .byte)] s := hK
  have hP : va_P (dC, dI) vwCl [(fl, .inr (2, [.null, .null, .null, .null, .null, .int 0])), (q_1, .inl (cA_2, 96, .inl (fun _ => 0)))] H := hP
  have hD : va_D A [(fl, .inr (2, [.null, .null, .null, .null, .null, .int 0])), (q_1, .inl (cA_2, 96, .inl (fun _ => 0)))] := hD
  refine va_putF (D := (dC, dI)) (ci := 2) (v := .ref q_1) (ty := .array .byte) (C := RX2) (T := TX2) (N := 6) hx hb hts iX2 tyX2 tyX2_ok nmX2 hown hK hP hD hS 0 rfl rfl 0 (by decide) (hts (.fieldLink RX2 9 "BatchTransfer$Shelf" "names" "[B") (by decide +kernel)) (fun _ h9 => h9) rfl hin rfl (by decide +kernel) rfl rfl (Nat.le_of_ble_eq_true rfl) dX2_init_9 (fun H locs hP hD hS => ?_)
  have hP : va_P (dC, dI) vwCl [(fl, .inr (2, [.ref q_1, .null, .null, .null, .null, .int 0])), (q_1, .inl (cA_2, 96, .inl (fun _ => 0)))] H := hP
  have hD : va_D A [(fl, .inr (2, [.ref q_1, .null, .null, .null, .null, .int 0])), (q_1, .inl (cA_2, 96, .inl (fun _ => 0)))] := hD
  refine lv_aload_n hx hb dX2_init_12 rfl (lv_at hl 0 rfl) ?_
  refine lv_bipush (v := 8) hx hb dX2_init_13 (by decide) ?_
  refine va_newa (atype := .int) (ty := .int) hx hb (hts (.arrayClass .int) (by decide +kernel)) rfl hK hP hD hS hA (n := 8) (N' := 8) (a0 := (8, .inl (fun _ => 0))) (nz_int 8) (by decide) (by decide +kernel) (nb_int 8 (by omega)) (show 1 + 1 ≤ 5 by omega) (show 96 + 8 ≤ 24120 by omega) dX2_init_15 (fun q_3 cA_4 H hK hP hD hS => ?_)
  refine W.widen (k := 2) (n := 104) (by omega) (by omega) ?_
  have hK : va_K (dC, dI) vwCl [(cA_2, .byte), (cA_4, .int)] s := hK
  have hP : va_P (dC, dI) vwCl [(fl, .inr (2, [.ref q_1, .null, .null, .null, .null, .int 0])), (q_1, .inl (cA_2, 96, .inl (fun _ => 0))), (q_3, .inl (cA_4, 8, .inl (fun _ => 0)))] H := hP
  have hD : va_D A [(fl, .inr (2, [.ref q_1, .null, .null, .null, .null, .int 0])), (q_1, .inl (cA_2, 96, .inl (fun _ => 0))), (q_3, .inl (cA_4, 8, .inl (fun _ => 0)))] := hD
  refine va_putF (D := (dC, dI)) (ci := 2) (v := .ref q_3) (ty := .array .int) (C := RX2) (T := TX2) (N := 6) hx hb hts iX2 tyX2 tyX2_ok nmX2 hown hK hP hD hS 0 rfl rfl 1 (by decide) (hts (.fieldLink RX2 15 "BatchTransfer$Shelf" "nameLengths" "[I") (by decide +kernel)) (fun _ h9 => h9) rfl hin rfl (by decide +kernel) rfl rfl (Nat.le_of_ble_eq_true rfl) dX2_init_17 (fun H locs hP hD hS => ?_)
  have hP : va_P (dC, dI) vwCl [(fl, .inr (2, [.ref q_1, .ref q_3, .null, .null, .null, .int 0])), (q_1, .inl (cA_2, 96, .inl (fun _ => 0))), (q_3, .inl (cA_4, 8, .inl (fun _ => 0)))] H := hP
  have hD : va_D A [(fl, .inr (2, [.ref q_1, .ref q_3, .null, .null, .null, .int 0])), (q_1, .inl (cA_2, 96, .inl (fun _ => 0))), (q_3, .inl (cA_4, 8, .inl (fun _ => 0)))] := hD
  refine lv_aload_n hx hb dX2_init_20 rfl (lv_at hl 0 rfl) ?_
  refine lv_bipush (v := 8) hx hb dX2_init_21 (by decide) ?_
  refine va_newa (atype := .int) (ty := .int) hx hb (hts (.arrayClass .int) (by decide +kernel)) rfl hK hP hD hS hA (n := 8) (N' := 8) (a0 := (8, .inl (fun _ => 0))) (nz_int 8) (by decide) (by decide +kernel) (nb_int 8 (by omega)) (show 2 + 1 ≤ 5 by omega) (show 104 + 8 ≤ 24120 by omega) dX2_init_23 (fun q_5 cA_6 H hK hP hD hS => ?_)
  refine W.widen (k := 3) (n := 112) (by omega) (by omega) ?_
  have hK : va_K (dC, dI) vwCl [(cA_2, .byte), (cA_4, .int), (cA_6, .int)] s := hK
  have hP : va_P (dC, dI) vwCl [(fl, .inr (2, [.ref q_1, .ref q_3, .null, .null, .null, .int 0])), (q_1, .inl (cA_2, 96, .inl (fun _ => 0))), (q_3, .inl (cA_4, 8, .inl (fun _ => 0))), (q_5, .inl (cA_6, 8, .inl (fun _ => 0)))] H := hP
  have hD : va_D A [(fl, .inr (2, [.ref q_1, .ref q_3, .null, .null, .null, .int 0])), (q_1, .inl (cA_2, 96, .inl (fun _ => 0))), (q_3, .inl (cA_4, 8, .inl (fun _ => 0))), (q_5, .inl (cA_6, 8, .inl (fun _ => 0)))] := hD
  refine va_putF (D := (dC, dI)) (ci := 2) (v := .ref q_5) (ty := .array .int) (C := RX2) (T := TX2) (N := 6) hx hb hts iX2 tyX2 tyX2_ok nmX2 hown hK hP hD hS 0 rfl rfl 3 (by decide) (hts (.fieldLink RX2 19 "BatchTransfer$Shelf" "starts" "[I") (by decide +kernel)) (fun _ h9 => h9) rfl hin rfl (by decide +kernel) rfl rfl (Nat.le_of_ble_eq_true rfl) dX2_init_25 (fun H locs hP hD hS => ?_)
  have hP : va_P (dC, dI) vwCl [(fl, .inr (2, [.ref q_1, .ref q_3, .null, .ref q_5, .null, .int 0])), (q_1, .inl (cA_2, 96, .inl (fun _ => 0))), (q_3, .inl (cA_4, 8, .inl (fun _ => 0))), (q_5, .inl (cA_6, 8, .inl (fun _ => 0)))] H := hP
  have hD : va_D A [(fl, .inr (2, [.ref q_1, .ref q_3, .null, .ref q_5, .null, .int 0])), (q_1, .inl (cA_2, 96, .inl (fun _ => 0))), (q_3, .inl (cA_4, 8, .inl (fun _ => 0))), (q_5, .inl (cA_6, 8, .inl (fun _ => 0)))] := hD
  refine lv_aload_n hx hb dX2_init_28 rfl (lv_at hl 0 rfl) ?_
  refine lv_bipush (v := 8) hx hb dX2_init_29 (by decide) ?_
  refine va_newa (atype := .int) (ty := .int) hx hb (hts (.arrayClass .int) (by decide +kernel)) rfl hK hP hD hS hA (n := 8) (N' := 8) (a0 := (8, .inl (fun _ => 0))) (nz_int 8) (by decide) (by decide +kernel) (nb_int 8 (by omega)) (show 3 + 1 ≤ 5 by omega) (show 112 + 8 ≤ 24120 by omega) dX2_init_31 (fun q_7 cA_8 H hK hP hD hS => ?_)
  refine W.widen (k := 4) (n := 120) (by omega) (by omega) ?_
  have hK : va_K (dC, dI) vwCl [(cA_2, .byte), (cA_4, .int), (cA_6, .int), (cA_8, .int)] s := hK
  have hP : va_P (dC, dI) vwCl [(fl, .inr (2, [.ref q_1, .ref q_3, .null, .ref q_5, .null, .int 0])), (q_1, .inl (cA_2, 96, .inl (fun _ => 0))), (q_3, .inl (cA_4, 8, .inl (fun _ => 0))), (q_5, .inl (cA_6, 8, .inl (fun _ => 0))), (q_7, .inl (cA_8, 8, .inl (fun _ => 0)))] H := hP
  have hD : va_D A [(fl, .inr (2, [.ref q_1, .ref q_3, .null, .ref q_5, .null, .int 0])), (q_1, .inl (cA_2, 96, .inl (fun _ => 0))), (q_3, .inl (cA_4, 8, .inl (fun _ => 0))), (q_5, .inl (cA_6, 8, .inl (fun _ => 0))), (q_7, .inl (cA_8, 8, .inl (fun _ => 0)))] := hD
  refine va_putF (D := (dC, dI)) (ci := 2) (v := .ref q_7) (ty := .array .int) (C := RX2) (T := TX2) (N := 6) hx hb hts iX2 tyX2 tyX2_ok nmX2 hown hK hP hD hS 0 rfl rfl 4 (by decide) (hts (.fieldLink RX2 22 "BatchTransfer$Shelf" "sizes" "[I") (by decide +kernel)) (fun _ h9 => h9) rfl hin rfl (by decide +kernel) rfl rfl (Nat.le_of_ble_eq_true rfl) dX2_init_33 (fun H locs hP hD hS => ?_)
  have hP : va_P (dC, dI) vwCl [(fl, .inr (2, [.ref q_1, .ref q_3, .null, .ref q_5, .ref q_7, .int 0])), (q_1, .inl (cA_2, 96, .inl (fun _ => 0))), (q_3, .inl (cA_4, 8, .inl (fun _ => 0))), (q_5, .inl (cA_6, 8, .inl (fun _ => 0))), (q_7, .inl (cA_8, 8, .inl (fun _ => 0)))] H := hP
  have hD : va_D A [(fl, .inr (2, [.ref q_1, .ref q_3, .null, .ref q_5, .ref q_7, .int 0])), (q_1, .inl (cA_2, 96, .inl (fun _ => 0))), (q_3, .inl (cA_4, 8, .inl (fun _ => 0))), (q_5, .inl (cA_6, 8, .inl (fun _ => 0))), (q_7, .inl (cA_8, 8, .inl (fun _ => 0)))] := hD
  refine lv_aload_n hx hb dX2_init_36 rfl (lv_at hl 0 rfl) ?_
  refine lv_iload_n hx hb dX2_init_37 rfl (lv_at hl 1 rfl) ?_
  refine va_newa (atype := .byte) (ty := .byte) hx hb (hts (.arrayClass .byte) (by decide +kernel)) rfl hK hP hD hS hA (n := 24000) (N' := 24000) (a0 := (24000, .inl (fun _ => 0))) (nz_byte 24000) (by decide) (by decide +kernel) (nb_byte 24000 (by omega)) (show 4 + 1 ≤ 5 by omega) (show 120 + 24000 ≤ 24120 by omega) dX2_init_38 (fun q_9 cA_10 H hK hP hD hS => ?_)
  refine W.widen (k := 5) (n := 24120) (by omega) (by omega) ?_
  have hK : va_K (dC, dI) vwCl [(cA_2, .byte), (cA_4, .int), (cA_6, .int), (cA_8, .int), (cA_10, .byte)] s := hK
  have hP : va_P (dC, dI) vwCl [(fl, .inr (2, [.ref q_1, .ref q_3, .null, .ref q_5, .ref q_7, .int 0])), (q_1, .inl (cA_2, 96, .inl (fun _ => 0))), (q_3, .inl (cA_4, 8, .inl (fun _ => 0))), (q_5, .inl (cA_6, 8, .inl (fun _ => 0))), (q_7, .inl (cA_8, 8, .inl (fun _ => 0))), (q_9, .inl (cA_10, 24000, .inl (fun _ => 0)))] H := hP
  have hD : va_D A [(fl, .inr (2, [.ref q_1, .ref q_3, .null, .ref q_5, .ref q_7, .int 0])), (q_1, .inl (cA_2, 96, .inl (fun _ => 0))), (q_3, .inl (cA_4, 8, .inl (fun _ => 0))), (q_5, .inl (cA_6, 8, .inl (fun _ => 0))), (q_7, .inl (cA_8, 8, .inl (fun _ => 0))), (q_9, .inl (cA_10, 24000, .inl (fun _ => 0)))] := hD
  refine va_putF (D := (dC, dI)) (ci := 2) (v := .ref q_9) (ty := .array .byte) (C := RX2) (T := TX2) (N := 6) hx hb hts iX2 tyX2 tyX2_ok nmX2 hown hK hP hD hS 0 rfl rfl 2 (by decide) (hts (.fieldLink RX2 25 "BatchTransfer$Shelf" "data" "[B") (by decide +kernel)) (fun _ h9 => h9) rfl hin rfl (by decide +kernel) rfl rfl (Nat.le_of_ble_eq_true rfl) dX2_init_40 (fun H locs hP hD hS => ?_)
  have hP : va_P (dC, dI) vwCl [(fl, .inr (2, [.ref q_1, .ref q_3, .ref q_9, .ref q_5, .ref q_7, .int 0])), (q_1, .inl (cA_2, 96, .inl (fun _ => 0))), (q_3, .inl (cA_4, 8, .inl (fun _ => 0))), (q_5, .inl (cA_6, 8, .inl (fun _ => 0))), (q_7, .inl (cA_8, 8, .inl (fun _ => 0))), (q_9, .inl (cA_10, 24000, .inl (fun _ => 0)))] H := hP
  have hD : va_D A [(fl, .inr (2, [.ref q_1, .ref q_3, .ref q_9, .ref q_5, .ref q_7, .int 0])), (q_1, .inl (cA_2, 96, .inl (fun _ => 0))), (q_3, .inl (cA_4, 8, .inl (fun _ => 0))), (q_5, .inl (cA_6, 8, .inl (fun _ => 0))), (q_7, .inl (cA_8, 8, .inl (fun _ => 0))), (q_9, .inl (cA_10, 24000, .inl (fun _ => 0)))] := hD
  have hP9 := hP.sub (ws' := [(fl, .inr (2, [.ref q_1, .ref q_3, .ref q_9, .ref q_5, .ref q_7, .int 0])), (q_1, .inl (cA_2, 96, .inl (fun _ => 0))), (q_3, .inl (cA_4, 8, .inl (fun _ => 0))), (q_9, .inl (cA_10, 24000, .inl (fun _ => 0))), (q_5, .inl (cA_6, 8, .inl (fun _ => 0))), (q_7, .inl (cA_8, 8, .inl (fun _ => 0)))]) [0, 1, 2, 5, 3, 4] rfl
  have hD9 := hD.sub (ws' := [(fl, .inr (2, [.ref q_1, .ref q_3, .ref q_9, .ref q_5, .ref q_7, .int 0])), (q_1, .inl (cA_2, 96, .inl (fun _ => 0))), (q_3, .inl (cA_4, 8, .inl (fun _ => 0))), (q_9, .inl (cA_10, 24000, .inl (fun _ => 0))), (q_5, .inl (cA_6, 8, .inl (fun _ => 0))), (q_7, .inl (cA_8, 8, .inl (fun _ => 0)))]) [0, 1, 2, 5, 3, 4] (by decide) rfl
  have hK9 := hK.sub (tys' := [(cA_2, .byte), (cA_4, .int), (cA_10, .byte), (cA_6, .int), (cA_8, .int)]) [0, 1, 4, 2, 3] rfl
  exact W.vret hx hb hr (fun t ht hW => ⟨⟨(), rfl, trivial, q_1, q_3, q_9, q_5, q_7, cA_2, cA_4, cA_10, cA_6, cA_8, by rw [ht]; exact hP9, va_K.moved hW.alike hK9, hD9⟩, hS.F ht⟩) hS.2.2 dX2_init_43

set_option maxHeartbeats 4000000 in
set_option maxRecDepth 100000 in
theorem k_shelf24576 (l : Launch) (dC : Nat → ClassId) (dI : Nat → Nat → Nat) (fl : Nat) (sz : Nat) : Met l yX2_init wsX2_init ({ frames := 1, cells := 5, slots := 24696, locals := 12 }) (va_Pc [.ref fl, .int 24576] (fun U => U.heap.size = sz ∧ va_P (dC, dI) vwCl [(fl, .inr (2, [.null, .null, .null, .null, .null, .int 0]))] U.heap ∧ va_K (dC, dI) vwCl [] U ∧ va_D (fun _ => True) [(fl, .inr (2, [.null, .null, .null, .null, .null, .int 0]))])) (va_Qv (fun (_ : Unit) => True) (fun (_ : Unit) (t : State) => ∃ (fn : Nat), ∃ (fk : Nat), ∃ (fd : Nat), ∃ (fs : Nat), ∃ (fz : Nat), ∃ (c1 : ClassId), ∃ (c2 : ClassId), ∃ (c3 : ClassId), ∃ (c4 : ClassId), ∃ (c5 : ClassId), va_P (dC, dI) vwCl [(fl, .inr (2, [.ref fn, .ref fk, .ref fd, .ref fs, .ref fz, .int 0])), (fn, .inl (c1, 96, .inl (fun _ => 0))), (fk, .inl (c2, 8, .inl (fun _ => 0))), (fd, .inl (c3, 24576, .inl (fun _ => 0))), (fs, .inl (c4, 8, .inl (fun _ => 0))), (fz, .inl (c5, 8, .inl (fun _ => 0)))] t.heap ∧ va_K (dC, dI) vwCl [(c1, .byte), (c2, .int), (c3, .byte), (c4, .int), (c5, .int)] t ∧ va_D (va_A [(fl, .inr (2, [.null, .null, .null, .null, .null, .int 0]))] sz) [(fl, .inr (2, [.ref fn, .ref fk, .ref fd, .ref fs, .ref fz, .int 0])), (fn, .inl (c1, 96, .inl (fun _ => 0))), (fk, .inl (c2, 8, .inl (fun _ => 0))), (fd, .inl (c3, 24576, .inl (fun _ => 0))), (fs, .inl (c4, 8, .inl (fun _ => 0))), (fz, .inl (c5, 8, .inl (fun _ => 0)))]) (va_A [(fl, .inr (2, [.null, .null, .null, .null, .null, .int 0]))] sz)) 5 24696 (va_A [(fl, .inr (2, [.null, .null, .null, .null, .null, .int 0]))] sz) := by
  refine Met.ofW (cc := cX2_init) (maxL := 2) (ret := none) (by decide) rfl ?_
  intro p e s m args below meth c s₁ B hml hv
  obtain ⟨rfl, hsz, hP, hK, hD0⟩ := hv
  have hx := B.exec
  have hb := B.bytes
  have hr := B.returns
  have hts := atoms_spec (ws := wsX2_init) B.pre
  have hown : s.vm.findClass RX2 = some m.cls := findClass_of_methodNamed B.named
  have hlocks := B.notSynchronized
  have hin : meth.name = "<init>" := (name_of_methodNamed B.named B.method).1
  subst hsz
  have hD := hD0.self (sz := s.heap.size)
  generalize hAe : va_A [(fl, .inr (2, [.null, .null, .null, .null, .null, .int 0]))] s.heap.size = A at hD ⊢
  have hA : ∀ q : Nat, s.heap.size ≤ q → A q := fun q h => by rw [← hAe]; exact Or.inr h
  have hS : va_S A s.heap s.heap [] := va_S.rf
  have hP : va_P (dC, dI) vwCl [(fl, .inr (2, [.null, .null, .null, .null, .null, .int 0]))] s.heap := hP
  have hl := lv_entry ([.ref fl, .int 24576]) (n := 2) (Nat.le_of_ble_eq_true rfl)
  rw [lg_entry_eq]
  generalize (lg_sl ([.ref fl, .int 24576]) ++ List.replicate (2 - (lg_sl ([.ref fl, .int 24576])).length) Slot.unset).toArray = ls at hl ⊢
  have hl : lv_has ls 2 [(0, .ref fl), (1, .int 24576)] := hl
  have iX2 : ∀ w ∈ wsX20, w ∈ wsX2_init := by decide +kernel
  refine lv_aload_n hx hb dX2_init_0 rfl (lv_at hl 0 rfl) ?_
  refine W.objInit hx hb hown (hts (.methodLink RX2 3 objectInit) (by decide +kernel)) (hts (.instanceMethod objectInit) (by decide +kernel)) (hts (.code objectInit ⟨#[0xb1]⟩ 1 none) (by decide +kernel)) rfl (by rw [hml]; exact hl.1) rfl dX2_init_1 (Nat.le_of_ble_eq_true rfl) (Nat.le_of_ble_eq_true rfl) ?_
  refine W.eq (g2 := F0 m 4 ls []) rfl ?_
  refine lv_aload_n hx hb dX2_init_4 rfl (lv_at hl 0 rfl) ?_
  refine lv_bipush (v := 96) hx hb dX2_init_5 (by decide) ?_
  refine va_newa (atype := .byte) (ty := .byte) hx hb (hts (.arrayClass .byte) (by decide +kernel)) rfl hK hP hD hS hA (n := 96) (N' := 96) (a0 := (96, .inl (fun _ => 0))) (nz_byte 96) (by decide) (by decide +kernel) (nb_byte 96 (by omega)) (show 0 + 1 ≤ 5 by omega) (show 0 + 96 ≤ 24696 by omega) dX2_init_7 (fun q_1 cA_2 H hK hP hD hS => ?_)
  refine W.widen (k := 1) (n := 96) (by omega) (by omega) ?_
  have hK : va_K (dC, dI) vwCl [(cA_2, .byte)] s := hK
  have hP : va_P (dC, dI) vwCl [(fl, .inr (2, [.null, .null, .null, .null, .null, .int 0])), (q_1, .inl (cA_2, 96, .inl (fun _ => 0)))] H := hP
  have hD : va_D A [(fl, .inr (2, [.null, .null, .null, .null, .null, .int 0])), (q_1, .inl (cA_2, 96, .inl (fun _ => 0)))] := hD
  refine va_putF (D := (dC, dI)) (ci := 2) (v := .ref q_1) (ty := .array .byte) (C := RX2) (T := TX2) (N := 6) hx hb hts iX2 tyX2 tyX2_ok nmX2 hown hK hP hD hS 0 rfl rfl 0 (by decide) (hts (.fieldLink RX2 9 "BatchTransfer$Shelf" "names" "[B") (by decide +kernel)) (fun _ h9 => h9) rfl hin rfl (by decide +kernel) rfl rfl (Nat.le_of_ble_eq_true rfl) dX2_init_9 (fun H locs hP hD hS => ?_)
  have hP : va_P (dC, dI) vwCl [(fl, .inr (2, [.ref q_1, .null, .null, .null, .null, .int 0])), (q_1, .inl (cA_2, 96, .inl (fun _ => 0)))] H := hP
  have hD : va_D A [(fl, .inr (2, [.ref q_1, .null, .null, .null, .null, .int 0])), (q_1, .inl (cA_2, 96, .inl (fun _ => 0)))] := hD
  refine lv_aload_n hx hb dX2_init_12 rfl (lv_at hl 0 rfl) ?_
  refine lv_bipush (v := 8) hx hb dX2_init_13 (by decide) ?_
  refine va_newa (atype := .int) (ty := .int) hx hb (hts (.arrayClass .int) (by decide +kernel)) rfl hK hP hD hS hA (n := 8) (N' := 8) (a0 := (8, .inl (fun _ => 0))) (nz_int 8) (by decide) (by decide +kernel) (nb_int 8 (by omega)) (show 1 + 1 ≤ 5 by omega) (show 96 + 8 ≤ 24696 by omega) dX2_init_15 (fun q_3 cA_4 H hK hP hD hS => ?_)
  refine W.widen (k := 2) (n := 104) (by omega) (by omega) ?_
  have hK : va_K (dC, dI) vwCl [(cA_2, .byte), (cA_4, .int)] s := hK
  have hP : va_P (dC, dI) vwCl [(fl, .inr (2, [.ref q_1, .null, .null, .null, .null, .int 0])), (q_1, .inl (cA_2, 96, .inl (fun _ => 0))), (q_3, .inl (cA_4, 8, .inl (fun _ => 0)))] H := hP
  have hD : va_D A [(fl, .inr (2, [.ref q_1, .null, .null, .null, .null, .int 0])), (q_1, .inl (cA_2, 96, .inl (fun _ => 0))), (q_3, .inl (cA_4, 8, .inl (fun _ => 0)))] := hD
  refine va_putF (D := (dC, dI)) (ci := 2) (v := .ref q_3) (ty := .array .int) (C := RX2) (T := TX2) (N := 6) hx hb hts iX2 tyX2 tyX2_ok nmX2 hown hK hP hD hS 0 rfl rfl 1 (by decide) (hts (.fieldLink RX2 15 "BatchTransfer$Shelf" "nameLengths" "[I") (by decide +kernel)) (fun _ h9 => h9) rfl hin rfl (by decide +kernel) rfl rfl (Nat.le_of_ble_eq_true rfl) dX2_init_17 (fun H locs hP hD hS => ?_)
  have hP : va_P (dC, dI) vwCl [(fl, .inr (2, [.ref q_1, .ref q_3, .null, .null, .null, .int 0])), (q_1, .inl (cA_2, 96, .inl (fun _ => 0))), (q_3, .inl (cA_4, 8, .inl (fun _ => 0)))] H := hP
  have hD : va_D A [(fl, .inr (2, [.ref q_1, .ref q_3, .null, .null, .null, .int 0])), (q_1, .inl (cA_2, 96, .inl (fun _ => 0))), (q_3, .inl (cA_4, 8, .inl (fun _ => 0)))] := hD
  refine lv_aload_n hx hb dX2_init_20 rfl (lv_at hl 0 rfl) ?_
  refine lv_bipush (v := 8) hx hb dX2_init_21 (by decide) ?_
  refine va_newa (atype := .int) (ty := .int) hx hb (hts (.arrayClass .int) (by decide +kernel)) rfl hK hP hD hS hA (n := 8) (N' := 8) (a0 := (8, .inl (fun _ => 0))) (nz_int 8) (by decide) (by decide +kernel) (nb_int 8 (by omega)) (show 2 + 1 ≤ 5 by omega) (show 104 + 8 ≤ 24696 by omega) dX2_init_23 (fun q_5 cA_6 H hK hP hD hS => ?_)
  refine W.widen (k := 3) (n := 112) (by omega) (by omega) ?_
  have hK : va_K (dC, dI) vwCl [(cA_2, .byte), (cA_4, .int), (cA_6, .int)] s := hK
  have hP : va_P (dC, dI) vwCl [(fl, .inr (2, [.ref q_1, .ref q_3, .null, .null, .null, .int 0])), (q_1, .inl (cA_2, 96, .inl (fun _ => 0))), (q_3, .inl (cA_4, 8, .inl (fun _ => 0))), (q_5, .inl (cA_6, 8, .inl (fun _ => 0)))] H := hP
  have hD : va_D A [(fl, .inr (2, [.ref q_1, .ref q_3, .null, .null, .null, .int 0])), (q_1, .inl (cA_2, 96, .inl (fun _ => 0))), (q_3, .inl (cA_4, 8, .inl (fun _ => 0))), (q_5, .inl (cA_6, 8, .inl (fun _ => 0)))] := hD
  refine va_putF (D := (dC, dI)) (ci := 2) (v := .ref q_5) (ty := .array .int) (C := RX2) (T := TX2) (N := 6) hx hb hts iX2 tyX2 tyX2_ok nmX2 hown hK hP hD hS 0 rfl rfl 3 (by decide) (hts (.fieldLink RX2 19 "BatchTransfer$Shelf" "starts" "[I") (by decide +kernel)) (fun _ h9 => h9) rfl hin rfl (by decide +kernel) rfl rfl (Nat.le_of_ble_eq_true rfl) dX2_init_25 (fun H locs hP hD hS => ?_)
  have hP : va_P (dC, dI) vwCl [(fl, .inr (2, [.ref q_1, .ref q_3, .null, .ref q_5, .null, .int 0])), (q_1, .inl (cA_2, 96, .inl (fun _ => 0))), (q_3, .inl (cA_4, 8, .inl (fun _ => 0))), (q_5, .inl (cA_6, 8, .inl (fun _ => 0)))] H := hP
  have hD : va_D A [(fl, .inr (2, [.ref q_1, .ref q_3, .null, .ref q_5, .null, .int 0])), (q_1, .inl (cA_2, 96, .inl (fun _ => 0))), (q_3, .inl (cA_4, 8, .inl (fun _ => 0))), (q_5, .inl (cA_6, 8, .inl (fun _ => 0)))] := hD
  refine lv_aload_n hx hb dX2_init_28 rfl (lv_at hl 0 rfl) ?_
  refine lv_bipush (v := 8) hx hb dX2_init_29 (by decide) ?_
  refine va_newa (atype := .int) (ty := .int) hx hb (hts (.arrayClass .int) (by decide +kernel)) rfl hK hP hD hS hA (n := 8) (N' := 8) (a0 := (8, .inl (fun _ => 0))) (nz_int 8) (by decide) (by decide +kernel) (nb_int 8 (by omega)) (show 3 + 1 ≤ 5 by omega) (show 112 + 8 ≤ 24696 by omega) dX2_init_31 (fun q_7 cA_8 H hK hP hD hS => ?_)
  refine W.widen (k := 4) (n := 120) (by omega) (by omega) ?_
  have hK : va_K (dC, dI) vwCl [(cA_2, .byte), (cA_4, .int), (cA_6, .int), (cA_8, .int)] s := hK
  have hP : va_P (dC, dI) vwCl [(fl, .inr (2, [.ref q_1, .ref q_3, .null, .ref q_5, .null, .int 0])), (q_1, .inl (cA_2, 96, .inl (fun _ => 0))), (q_3, .inl (cA_4, 8, .inl (fun _ => 0))), (q_5, .inl (cA_6, 8, .inl (fun _ => 0))), (q_7, .inl (cA_8, 8, .inl (fun _ => 0)))] H := hP
  have hD : va_D A [(fl, .inr (2, [.ref q_1, .ref q_3, .null, .ref q_5, .null, .int 0])), (q_1, .inl (cA_2, 96, .inl (fun _ => 0))), (q_3, .inl (cA_4, 8, .inl (fun _ => 0))), (q_5, .inl (cA_6, 8, .inl (fun _ => 0))), (q_7, .inl (cA_8, 8, .inl (fun _ => 0)))] := hD
  refine va_putF (D := (dC, dI)) (ci := 2) (v := .ref q_7) (ty := .array .int) (C := RX2) (T := TX2) (N := 6) hx hb hts iX2 tyX2 tyX2_ok nmX2 hown hK hP hD hS 0 rfl rfl 4 (by decide) (hts (.fieldLink RX2 22 "BatchTransfer$Shelf" "sizes" "[I") (by decide +kernel)) (fun _ h9 => h9) rfl hin rfl (by decide +kernel) rfl rfl (Nat.le_of_ble_eq_true rfl) dX2_init_33 (fun H locs hP hD hS => ?_)
  have hP : va_P (dC, dI) vwCl [(fl, .inr (2, [.ref q_1, .ref q_3, .null, .ref q_5, .ref q_7, .int 0])), (q_1, .inl (cA_2, 96, .inl (fun _ => 0))), (q_3, .inl (cA_4, 8, .inl (fun _ => 0))), (q_5, .inl (cA_6, 8, .inl (fun _ => 0))), (q_7, .inl (cA_8, 8, .inl (fun _ => 0)))] H := hP
  have hD : va_D A [(fl, .inr (2, [.ref q_1, .ref q_3, .null, .ref q_5, .ref q_7, .int 0])), (q_1, .inl (cA_2, 96, .inl (fun _ => 0))), (q_3, .inl (cA_4, 8, .inl (fun _ => 0))), (q_5, .inl (cA_6, 8, .inl (fun _ => 0))), (q_7, .inl (cA_8, 8, .inl (fun _ => 0)))] := hD
  refine lv_aload_n hx hb dX2_init_36 rfl (lv_at hl 0 rfl) ?_
  refine lv_iload_n hx hb dX2_init_37 rfl (lv_at hl 1 rfl) ?_
  refine va_newa (atype := .byte) (ty := .byte) hx hb (hts (.arrayClass .byte) (by decide +kernel)) rfl hK hP hD hS hA (n := 24576) (N' := 24576) (a0 := (24576, .inl (fun _ => 0))) (nz_byte 24576) (by decide) (by decide +kernel) (nb_byte 24576 (by omega)) (show 4 + 1 ≤ 5 by omega) (show 120 + 24576 ≤ 24696 by omega) dX2_init_38 (fun q_9 cA_10 H hK hP hD hS => ?_)
  refine W.widen (k := 5) (n := 24696) (by omega) (by omega) ?_
  have hK : va_K (dC, dI) vwCl [(cA_2, .byte), (cA_4, .int), (cA_6, .int), (cA_8, .int), (cA_10, .byte)] s := hK
  have hP : va_P (dC, dI) vwCl [(fl, .inr (2, [.ref q_1, .ref q_3, .null, .ref q_5, .ref q_7, .int 0])), (q_1, .inl (cA_2, 96, .inl (fun _ => 0))), (q_3, .inl (cA_4, 8, .inl (fun _ => 0))), (q_5, .inl (cA_6, 8, .inl (fun _ => 0))), (q_7, .inl (cA_8, 8, .inl (fun _ => 0))), (q_9, .inl (cA_10, 24576, .inl (fun _ => 0)))] H := hP
  have hD : va_D A [(fl, .inr (2, [.ref q_1, .ref q_3, .null, .ref q_5, .ref q_7, .int 0])), (q_1, .inl (cA_2, 96, .inl (fun _ => 0))), (q_3, .inl (cA_4, 8, .inl (fun _ => 0))), (q_5, .inl (cA_6, 8, .inl (fun _ => 0))), (q_7, .inl (cA_8, 8, .inl (fun _ => 0))), (q_9, .inl (cA_10, 24576, .inl (fun _ => 0)))] := hD
  refine va_putF (D := (dC, dI)) (ci := 2) (v := .ref q_9) (ty := .array .byte) (C := RX2) (T := TX2) (N := 6) hx hb hts iX2 tyX2 tyX2_ok nmX2 hown hK hP hD hS 0 rfl rfl 2 (by decide) (hts (.fieldLink RX2 25 "BatchTransfer$Shelf" "data" "[B") (by decide +kernel)) (fun _ h9 => h9) rfl hin rfl (by decide +kernel) rfl rfl (Nat.le_of_ble_eq_true rfl) dX2_init_40 (fun H locs hP hD hS => ?_)
  have hP : va_P (dC, dI) vwCl [(fl, .inr (2, [.ref q_1, .ref q_3, .ref q_9, .ref q_5, .ref q_7, .int 0])), (q_1, .inl (cA_2, 96, .inl (fun _ => 0))), (q_3, .inl (cA_4, 8, .inl (fun _ => 0))), (q_5, .inl (cA_6, 8, .inl (fun _ => 0))), (q_7, .inl (cA_8, 8, .inl (fun _ => 0))), (q_9, .inl (cA_10, 24576, .inl (fun _ => 0)))] H := hP
  have hD : va_D A [(fl, .inr (2, [.ref q_1, .ref q_3, .ref q_9, .ref q_5, .ref q_7, .int 0])), (q_1, .inl (cA_2, 96, .inl (fun _ => 0))), (q_3, .inl (cA_4, 8, .inl (fun _ => 0))), (q_5, .inl (cA_6, 8, .inl (fun _ => 0))), (q_7, .inl (cA_8, 8, .inl (fun _ => 0))), (q_9, .inl (cA_10, 24576, .inl (fun _ => 0)))] := hD
  have hP9 := hP.sub (ws' := [(fl, .inr (2, [.ref q_1, .ref q_3, .ref q_9, .ref q_5, .ref q_7, .int 0])), (q_1, .inl (cA_2, 96, .inl (fun _ => 0))), (q_3, .inl (cA_4, 8, .inl (fun _ => 0))), (q_9, .inl (cA_10, 24576, .inl (fun _ => 0))), (q_5, .inl (cA_6, 8, .inl (fun _ => 0))), (q_7, .inl (cA_8, 8, .inl (fun _ => 0)))]) [0, 1, 2, 5, 3, 4] rfl
  have hD9 := hD.sub (ws' := [(fl, .inr (2, [.ref q_1, .ref q_3, .ref q_9, .ref q_5, .ref q_7, .int 0])), (q_1, .inl (cA_2, 96, .inl (fun _ => 0))), (q_3, .inl (cA_4, 8, .inl (fun _ => 0))), (q_9, .inl (cA_10, 24576, .inl (fun _ => 0))), (q_5, .inl (cA_6, 8, .inl (fun _ => 0))), (q_7, .inl (cA_8, 8, .inl (fun _ => 0)))]) [0, 1, 2, 5, 3, 4] (by decide) rfl
  have hK9 := hK.sub (tys' := [(cA_2, .byte), (cA_4, .int), (cA_10, .byte), (cA_6, .int), (cA_8, .int)]) [0, 1, 4, 2, 3] rfl
  exact W.vret hx hb hr (fun t ht hW => ⟨⟨(), rfl, trivial, q_1, q_3, q_9, q_5, q_7, cA_2, cA_4, cA_10, cA_6, cA_8, by rw [ht]; exact hP9, va_K.moved hW.alike hK9, hD9⟩, hS.F ht⟩) hS.2.2 dX2_init_43

set_option maxHeartbeats 4000000 in
set_option maxRecDepth 100000 in
theorem k_tape (l : Launch) (dC : Nat → ClassId) (dI : Nat → Nat → Nat) (ta : Nat) (sz : Nat) : Met l yX4_init wsX4_init ({ frames := 1, cells := 1, slots := 3100, locals := 12 }) (va_Pc [.ref ta] (fun U => U.heap.size = sz ∧ va_P (dC, dI) vwCl [(ta, .inr (3, [.null, .int 0]))] U.heap ∧ va_K (dC, dI) vwCl [] U ∧ va_D (fun _ => True) [(ta, .inr (3, [.null, .int 0]))])) (va_Qv (fun (_ : Unit) => True) (fun (_ : Unit) (t : State) => ∃ (tb : Nat), ∃ (cT : ClassId), va_P (dC, dI) vwCl [(ta, .inr (3, [.ref tb, .int 0])), (tb, .inl (cT, 3100, .inl (fun _ => 0)))] t.heap ∧ va_K (dC, dI) vwCl [(cT, .byte)] t ∧ va_D (va_A [(ta, .inr (3, [.null, .int 0]))] sz) [(ta, .inr (3, [.ref tb, .int 0])), (tb, .inl (cT, 3100, .inl (fun _ => 0)))]) (va_A [(ta, .inr (3, [.null, .int 0]))] sz)) 1 3100 (va_A [(ta, .inr (3, [.null, .int 0]))] sz) := by
  refine Met.ofW (cc := cX4_init) (maxL := 1) (ret := none) (by decide) rfl ?_
  intro p e s m args below meth c s₁ B hml hv
  obtain ⟨rfl, hsz, hP, hK, hD0⟩ := hv
  have hx := B.exec
  have hb := B.bytes
  have hr := B.returns
  have hts := atoms_spec (ws := wsX4_init) B.pre
  have hown : s.vm.findClass RX4 = some m.cls := findClass_of_methodNamed B.named
  have hlocks := B.notSynchronized
  have hin : meth.name = "<init>" := (name_of_methodNamed B.named B.method).1
  subst hsz
  have hD := hD0.self (sz := s.heap.size)
  generalize hAe : va_A [(ta, .inr (3, [.null, .int 0]))] s.heap.size = A at hD ⊢
  have hA : ∀ q : Nat, s.heap.size ≤ q → A q := fun q h => by rw [← hAe]; exact Or.inr h
  have hS : va_S A s.heap s.heap [] := va_S.rf
  have hP : va_P (dC, dI) vwCl [(ta, .inr (3, [.null, .int 0]))] s.heap := hP
  have hl := lv_entry ([.ref ta]) (n := 1) (Nat.le_of_ble_eq_true rfl)
  rw [lg_entry_eq]
  generalize (lg_sl ([.ref ta]) ++ List.replicate (1 - (lg_sl ([.ref ta])).length) Slot.unset).toArray = ls at hl ⊢
  have hl : lv_has ls 1 [(0, .ref ta)] := hl
  have iX4 : ∀ w ∈ wsX40, w ∈ wsX4_init := by decide +kernel
  refine lv_aload_n hx hb dX4_init_0 rfl (lv_at hl 0 rfl) ?_
  refine W.objInit hx hb hown (hts (.methodLink RX4 3 objectInit) (by decide +kernel)) (hts (.instanceMethod objectInit) (by decide +kernel)) (hts (.code objectInit ⟨#[0xb1]⟩ 1 none) (by decide +kernel)) rfl (by rw [hml]; exact hl.1) rfl dX4_init_1 (Nat.le_of_ble_eq_true rfl) (Nat.le_of_ble_eq_true rfl) ?_
  refine W.eq (g2 := F0 m 4 ls []) rfl ?_
  refine lv_aload_n hx hb dX4_init_4 rfl (lv_at hl 0 rfl) ?_
  refine lv_sipush (v := 3100) hx hb dX4_init_5 (by decide) ?_
  refine va_newa (atype := .byte) (ty := .byte) hx hb (hts (.arrayClass .byte) (by decide +kernel)) rfl hK hP hD hS hA (n := 3100) (N' := 3100) (a0 := (3100, .inl (fun _ => 0))) (nz_byte 3100) (by decide) (by decide +kernel) (nb_byte 3100 (by omega)) (show 0 + 1 ≤ 1 by omega) (show 0 + 3100 ≤ 3100 by omega) dX4_init_8 (fun q_1 cA_2 H hK hP hD hS => ?_)
  refine W.widen (k := 1) (n := 3100) (by omega) (by omega) ?_
  have hK : va_K (dC, dI) vwCl [(cA_2, .byte)] s := hK
  have hP : va_P (dC, dI) vwCl [(ta, .inr (3, [.null, .int 0])), (q_1, .inl (cA_2, 3100, .inl (fun _ => 0)))] H := hP
  have hD : va_D A [(ta, .inr (3, [.null, .int 0])), (q_1, .inl (cA_2, 3100, .inl (fun _ => 0)))] := hD
  refine va_putF (D := (dC, dI)) (ci := 3) (v := .ref q_1) (ty := .array .byte) (C := RX4) (T := TX4) (N := 2) hx hb hts iX4 tyX4 tyX4_ok nmX4 hown hK hP hD hS 0 rfl rfl 0 (by decide) (hts (.fieldLink RX4 9 "BatchTransfer$Tape" "bytes" "[B") (by decide +kernel)) (fun _ h9 => h9) rfl hin rfl (by decide +kernel) rfl rfl (Nat.le_of_ble_eq_true rfl) dX4_init_10 (fun H locs hP hD hS => ?_)
  have hP : va_P (dC, dI) vwCl [(ta, .inr (3, [.ref q_1, .int 0])), (q_1, .inl (cA_2, 3100, .inl (fun _ => 0)))] H := hP
  have hD : va_D A [(ta, .inr (3, [.ref q_1, .int 0])), (q_1, .inl (cA_2, 3100, .inl (fun _ => 0)))] := hD
  have hP9 := hP.sub (ws' := [(ta, .inr (3, [.ref q_1, .int 0])), (q_1, .inl (cA_2, 3100, .inl (fun _ => 0)))]) [0, 1] rfl
  have hD9 := hD.sub (ws' := [(ta, .inr (3, [.ref q_1, .int 0])), (q_1, .inl (cA_2, 3100, .inl (fun _ => 0)))]) [0, 1] (by decide) rfl
  have hK9 := hK.sub (tys' := [(cA_2, .byte)]) [0] rfl
  exact W.vret hx hb hr (fun t ht hW => ⟨⟨(), rfl, trivial, q_1, cA_2, by rw [ht]; exact hP9, va_K.moved hW.alike hK9, hD9⟩, hS.F ht⟩) hS.2.2 dX4_init_13

set_option maxHeartbeats 4000000 in
set_option maxRecDepth 100000 in
theorem k_wire (l : Launch) (dC : Nat → ClassId) (dI : Nat → Nat → Nat) (wi : Nat) (sz : Nat) : Met l yX6_init wsX6_init ({ frames := 1, cells := 1, slots := 1029, locals := 12 }) (va_Pc [.ref wi] (fun U => U.heap.size = sz ∧ va_P (dC, dI) vwCl [(wi, .inr (4, [.null, .int 0]))] U.heap ∧ va_K (dC, dI) vwCl [] U ∧ va_D (fun _ => True) [(wi, .inr (4, [.null, .int 0]))])) (va_Qv (fun (_ : Unit) => True) (fun (_ : Unit) (t : State) => ∃ (wb : Nat), ∃ (cW : ClassId), va_P (dC, dI) vwCl [(wi, .inr (4, [.ref wb, .int 0])), (wb, .inl (cW, 1029, .inl (fun _ => 0)))] t.heap ∧ va_K (dC, dI) vwCl [(cW, .byte)] t ∧ va_D (va_A [(wi, .inr (4, [.null, .int 0]))] sz) [(wi, .inr (4, [.ref wb, .int 0])), (wb, .inl (cW, 1029, .inl (fun _ => 0)))]) (va_A [(wi, .inr (4, [.null, .int 0]))] sz)) 1 1029 (va_A [(wi, .inr (4, [.null, .int 0]))] sz) := by
  refine Met.ofW (cc := cX6_init) (maxL := 1) (ret := none) (by decide) rfl ?_
  intro p e s m args below meth c s₁ B hml hv
  obtain ⟨rfl, hsz, hP, hK, hD0⟩ := hv
  have hx := B.exec
  have hb := B.bytes
  have hr := B.returns
  have hts := atoms_spec (ws := wsX6_init) B.pre
  have hown : s.vm.findClass RX6 = some m.cls := findClass_of_methodNamed B.named
  have hlocks := B.notSynchronized
  have hin : meth.name = "<init>" := (name_of_methodNamed B.named B.method).1
  subst hsz
  have hD := hD0.self (sz := s.heap.size)
  generalize hAe : va_A [(wi, .inr (4, [.null, .int 0]))] s.heap.size = A at hD ⊢
  have hA : ∀ q : Nat, s.heap.size ≤ q → A q := fun q h => by rw [← hAe]; exact Or.inr h
  have hS : va_S A s.heap s.heap [] := va_S.rf
  have hP : va_P (dC, dI) vwCl [(wi, .inr (4, [.null, .int 0]))] s.heap := hP
  have hl := lv_entry ([.ref wi]) (n := 1) (Nat.le_of_ble_eq_true rfl)
  rw [lg_entry_eq]
  generalize (lg_sl ([.ref wi]) ++ List.replicate (1 - (lg_sl ([.ref wi])).length) Slot.unset).toArray = ls at hl ⊢
  have hl : lv_has ls 1 [(0, .ref wi)] := hl
  have iX6 : ∀ w ∈ wsX60, w ∈ wsX6_init := by decide +kernel
  refine lv_aload_n hx hb dX6_init_0 rfl (lv_at hl 0 rfl) ?_
  refine W.objInit hx hb hown (hts (.methodLink RX6 3 objectInit) (by decide +kernel)) (hts (.instanceMethod objectInit) (by decide +kernel)) (hts (.code objectInit ⟨#[0xb1]⟩ 1 none) (by decide +kernel)) rfl (by rw [hml]; exact hl.1) rfl dX6_init_1 (Nat.le_of_ble_eq_true rfl) (Nat.le_of_ble_eq_true rfl) ?_
  refine W.eq (g2 := F0 m 4 ls []) rfl ?_
  refine lv_aload_n hx hb dX6_init_4 rfl (lv_at hl 0 rfl) ?_
  refine lv_sipush (v := 1029) hx hb dX6_init_5 (by decide) ?_
  refine va_newa (atype := .byte) (ty := .byte) hx hb (hts (.arrayClass .byte) (by decide +kernel)) rfl hK hP hD hS hA (n := 1029) (N' := 1029) (a0 := (1029, .inl (fun _ => 0))) (nz_byte 1029) (by decide) (by decide +kernel) (nb_byte 1029 (by omega)) (show 0 + 1 ≤ 1 by omega) (show 0 + 1029 ≤ 1029 by omega) dX6_init_8 (fun q_1 cA_2 H hK hP hD hS => ?_)
  refine W.widen (k := 1) (n := 1029) (by omega) (by omega) ?_
  have hK : va_K (dC, dI) vwCl [(cA_2, .byte)] s := hK
  have hP : va_P (dC, dI) vwCl [(wi, .inr (4, [.null, .int 0])), (q_1, .inl (cA_2, 1029, .inl (fun _ => 0)))] H := hP
  have hD : va_D A [(wi, .inr (4, [.null, .int 0])), (q_1, .inl (cA_2, 1029, .inl (fun _ => 0)))] := hD
  refine va_putF (D := (dC, dI)) (ci := 4) (v := .ref q_1) (ty := .array .byte) (C := RX6) (T := TX6) (N := 2) hx hb hts iX6 tyX6 tyX6_ok nmX6 hown hK hP hD hS 0 rfl rfl 0 (by decide) (hts (.fieldLink RX6 9 "BatchTransfer$Wire" "bytes" "[B") (by decide +kernel)) (fun _ h9 => h9) rfl hin rfl (by decide +kernel) rfl rfl (Nat.le_of_ble_eq_true rfl) dX6_init_10 (fun H locs hP hD hS => ?_)
  have hP : va_P (dC, dI) vwCl [(wi, .inr (4, [.ref q_1, .int 0])), (q_1, .inl (cA_2, 1029, .inl (fun _ => 0)))] H := hP
  have hD : va_D A [(wi, .inr (4, [.ref q_1, .int 0])), (q_1, .inl (cA_2, 1029, .inl (fun _ => 0)))] := hD
  have hP9 := hP.sub (ws' := [(wi, .inr (4, [.ref q_1, .int 0])), (q_1, .inl (cA_2, 1029, .inl (fun _ => 0)))]) [0, 1] rfl
  have hD9 := hD.sub (ws' := [(wi, .inr (4, [.ref q_1, .int 0])), (q_1, .inl (cA_2, 1029, .inl (fun _ => 0)))]) [0, 1] (by decide) rfl
  have hK9 := hK.sub (tys' := [(cA_2, .byte)]) [0] rfl
  exact W.vret hx hb hr (fun t ht hW => ⟨⟨(), rfl, trivial, q_1, cA_2, by rw [ht]; exact hP9, va_K.moved hW.alike hK9, hD9⟩, hS.F ht⟩) hS.2.2 dX6_init_13

set_option maxHeartbeats 4000000 in
set_option maxRecDepth 100000 in
theorem k_sender (l : Launch) (dC : Nat → ClassId) (dI : Nat → Nat → Nat) (se un : Nat) (sz : Nat) : Met l yX1_init wsX1_init ({ frames := 2, cells := 6, slots := 24126, locals := 33 }) (va_Pc [.ref se] (fun U => U.heap.size = sz ∧ va_P (dC, dI) vwCl [(se, .inr (1, [.int 0, .int 0, .int 0, .null, .int 0, .null, .int 0, .int 0, .int 0, .int 0]))] U.heap ∧ va_K (dC, dI) vwCl [] U ∧ va_D (fun _ => True) [(se, .inr (1, [.int 0, .int 0, .int 0, .null, .int 0, .null, .int 0, .int 0, .int 0, .int 0]))] ∧ va_Nw (.methodLinkNest RX1 3 yX3_init "BatchTransfer") U ∧ va_Z "BatchTransfer$Unit" "HEAD" "LBatchTransfer$Unit;" (.ref un) (va_A [(se, .inr (1, [.int 0, .int 0, .int 0, .null, .int 0, .null, .int 0, .int 0, .int 0, .int 0]))] sz) U U.heap)) (va_Qv (fun (_ : Unit) => True) (fun (_ : Unit) (t : State) => ∃ (fl : Nat), ∃ (fn : Nat), ∃ (fk : Nat), ∃ (fd : Nat), ∃ (fs : Nat), ∃ (fz : Nat), ∃ (c1 : ClassId), ∃ (c2 : ClassId), ∃ (c3 : ClassId), ∃ (c4 : ClassId), ∃ (c5 : ClassId), va_P (dC, dI) vwCl [(se, .inr (1, [.int 0, .int 0, .int 0, .ref fl, .int 0, .ref un, .int 0, .int 0, .int 0, .int 0])), (fl, .inr (2, [.ref fn, .ref fk, .ref fd, .ref fs, .ref fz, .int 0])), (fn, .inl (c1, 96, .inl (fun _ => 0))), (fk, .inl (c2, 8, .inl (fun _ => 0))), (fd, .inl (c3, 24000, .inl (fun _ => 0))), (fs, .inl (c4, 8, .inl (fun _ => 0))), (fz, .inl (c5, 8, .inl (fun _ => 0)))] t.heap ∧ va_K (dC, dI) vwCl [(c1, .byte), (c2, .int), (c3, .byte), (c4, .int), (c5, .int)] t ∧ va_D (va_A [(se, .inr (1, [.int 0, .int 0, .int 0, .null, .int 0, .null, .int 0, .int 0, .int 0, .int 0]))] sz) [(se, .inr (1, [.int 0, .int 0, .int 0, .ref fl, .int 0, .ref un, .int 0, .int 0, .int 0, .int 0])), (fl, .inr (2, [.ref fn, .ref fk, .ref fd, .ref fs, .ref fz, .int 0])), (fn, .inl (c1, 96, .inl (fun _ => 0))), (fk, .inl (c2, 8, .inl (fun _ => 0))), (fd, .inl (c3, 24000, .inl (fun _ => 0))), (fs, .inl (c4, 8, .inl (fun _ => 0))), (fz, .inl (c5, 8, .inl (fun _ => 0)))]) (va_A [(se, .inr (1, [.int 0, .int 0, .int 0, .null, .int 0, .null, .int 0, .int 0, .int 0, .int 0]))] sz)) 6 24126 (va_A [(se, .inr (1, [.int 0, .int 0, .int 0, .null, .int 0, .null, .int 0, .int 0, .int 0, .int 0]))] sz) := by
  refine Met.ofW (cc := cX1_init) (maxL := 1) (ret := none) (by decide) rfl ?_
  intro p e s m args below meth c s₁ B hml hv
  obtain ⟨rfl, hsz, hP, hK, hD0, hX0, hX1⟩ := hv
  have hx := B.exec
  have hb := B.bytes
  have hr := B.returns
  have hts := atoms_spec (ws := wsX1_init) B.pre
  have hown : s.vm.findClass RX1 = some m.cls := findClass_of_methodNamed B.named
  have hlocks := B.notSynchronized
  have hin : meth.name = "<init>" := (name_of_methodNamed B.named B.method).1
  subst hsz
  have hD := hD0.self (sz := s.heap.size)
  generalize hAe : va_A [(se, .inr (1, [.int 0, .int 0, .int 0, .null, .int 0, .null, .int 0, .int 0, .int 0, .int 0]))] s.heap.size = A at hX1 hD ⊢
  have hA : ∀ q : Nat, s.heap.size ≤ q → A q := fun q h => by rw [← hAe]; exact Or.inr h
  have hS : va_S A s.heap s.heap [] := va_S.rf
  have hP : va_P (dC, dI) vwCl [(se, .inr (1, [.int 0, .int 0, .int 0, .null, .int 0, .null, .int 0, .int 0, .int 0, .int 0]))] s.heap := hP
  have hl := lv_entry ([.ref se]) (n := 1) (Nat.le_of_ble_eq_true rfl)
  rw [lg_entry_eq]
  generalize (lg_sl ([.ref se]) ++ List.replicate (1 - (lg_sl ([.ref se])).length) Slot.unset).toArray = ls at hl ⊢
  have hl : lv_has ls 1 [(0, .ref se)] := hl
  have iX1 : ∀ w ∈ wsX10, w ∈ wsX1_init := by decide +kernel
  have iX2 : ∀ w ∈ wsX20, w ∈ wsX1_init := by decide +kernel
  refine lv_aload_n hx hb dX1_init_0 rfl (lv_at hl 0 rfl) ?_
  have hPc := hP.sub (ws' := []) [] rfl
  have hDc := hD.sub (ws' := []) [] (by decide) rfl
  have hKc := hK.sub (tys' := []) [] rfl
  have hFc := va_free (wc := []) hD hS hA [] rfl
  refine va_callv (va_runIN (As := []) (rest := []) ⟨hx, hb, hml, hown, hts⟩ (k_side l dC dI se s.heap.size) ⟨va_cnB 0 hts gX1_init_X3_init_n3 rfl rfl rfl hX0 (hts (.initialized RX3) (by decide +kernel)) (by decide +kernel) ⟨Nat.le_of_ble_eq_true rfl, Nat.le_of_ble_eq_true rfl⟩, rfl, (hts (.instanceMethod yX3_init) (by decide +kernel))⟩ ⟨fun a U g mk q => by obtain ⟨q0, q1, qP, qK, qD⟩ := q; exact ⟨q0, q1, qP, va_K.moved (u := U) (U := U.calling g mk a) (Vm.Alike.refl U.vm) qK, qD⟩, fun U hU hW => ⟨rfl, by rw [hU], by rw [hU]; exact hPc, va_K.moved hW.alike hKc, hDc.weaken (fun _ _ _ _ => trivial)⟩⟩ rfl rfl hl.1 rfl (lv_room (Nat.le_of_ble_eq_true rfl)) dX1_init_1 ⟨show 0 + 0 ≤ 6 by omega, show 0 + 0 ≤ 24126 by omega⟩) hS (fun q _ h => hFc q h) hFc (fun u t H1 locs ht hvm hw hB hz1 hk1 hS => ?_)
  have hP1 : va_P (dC, dI) vwCl [] H1 := fun k q h => by simp at h
  have hD1 : va_D (va_A [] s.heap.size) [] := ⟨fun i j p q h => by simp at h, fun k q h => by simp at h⟩
  have hK1 : va_K (dC, dI) vwCl [] s := ⟨hK.1, fun k q h => by simp at h⟩
  try dsimp only at hw
  obtain ⟨hP, hD⟩ := va_join (wr := [(se, .inr (1, [.int 0, .int 0, .int 0, .null, .int 0, .null, .int 0, .int 0, .int 0, .int 0]))]) (w1 := []) hP hD [] [0] rfl rfl (by decide) (by decide) hk1 hFc hP1 hD1
  have hK := (hK.sub (tys' := []) [] rfl).app hK1
  generalize H1 = H at hP hS ⊢
  have hK : va_K (dC, dI) vwCl [] s := hK
  have hP : va_P (dC, dI) vwCl [(se, .inr (1, [.int 0, .int 0, .int 0, .null, .int 0, .null, .int 0, .int 0, .int 0, .int 0]))] H := hP
  have hD : va_D A [(se, .inr (1, [.int 0, .int 0, .int 0, .null, .int 0, .null, .int 0, .int 0, .int 0, .int 0]))] := hD
  refine lv_aload_n hx hb dX1_init_4 rfl (lv_at hl 0 rfl) ?_
  refine va_new (ci := 2) (fs := [.null, .null, .null, .null, .null, .int 0]) (C := RX2) (T := TX2) (N := 6) hx hb hts iX2 tyX2 tyX2_ok hown (hts (.classLink RX1 9 RX2) (by decide +kernel)) (hts (.instantiable RX2 6) (by decide +kernel)) (hts (.initialized RX2) (by decide +kernel)) hK hP hD hS hA rfl (fun j hj => by rcases (show j = 0 ∨ j = 1 ∨ j = 2 ∨ j = 3 ∨ j = 4 ∨ j = 5 by omega) with rfl | rfl | rfl | rfl | rfl | rfl <;> rfl) (show 0 + 1 ≤ 6 by omega) (show 0 + 6 ≤ 24126 by omega) dX1_init_5 (fun q_2 H hP hD hS => ?_)
  refine W.widen (k := 1) (n := 6) (by omega) (by omega) ?_
  have hP : va_P (dC, dI) vwCl [(se, .inr (1, [.int 0, .int 0, .int 0, .null, .int 0, .null, .int 0, .int 0, .int 0, .int 0])), (q_2, .inr (2, [.null, .null, .null, .null, .null, .int 0]))] H := hP
  have hD : va_D A [(se, .inr (1, [.int 0, .int 0, .int 0, .null, .int 0, .null, .int 0, .int 0, .int 0, .int 0])), (q_2, .inr (2, [.null, .null, .null, .null, .null, .int 0]))] := hD
  refine lv_dup hx hb dX1_init_8 rfl ?_
  refine lv_sipush (v := 24000) hx hb dX1_init_9 (by decide) ?_
  have hPc := hP.sub (ws' := [(q_2, .inr (2, [.null, .null, .null, .null, .null, .int 0]))]) [1] rfl
  have hDc := hD.sub (ws' := [(q_2, .inr (2, [.null, .null, .null, .null, .null, .int 0]))]) [1] (by decide) rfl
  have hKc := hK.sub (tys' := []) [] rfl
  have hFc := va_free (wc := [(q_2, .inr (2, [.null, .null, .null, .null, .null, .int 0]))]) hD hS hA [1] rfl
  refine va_callv (va_runI (As := [.int 24000]) (rest := [.ref q_2, .ref se]) ⟨hx, hb, hml, hown, hts⟩ (k_shelf24000 l dC dI q_2 H.size) (cwI 1 hts gX1_init_X2_init rfl rfl rfl (hts (.initialized RX2) (by decide +kernel)) (hts (.methodLink RX1 11 yX2_init) (by decide +kernel)) (hts (.instanceMethod yX2_init) (by decide +kernel)) rfl (by decide +kernel) ⟨Nat.le_of_ble_eq_true rfl, Nat.le_of_ble_eq_true rfl⟩) ⟨fun a U g mk q => by obtain ⟨q0, q1, qP, qK, qD⟩ := q; exact ⟨q0, q1, qP, va_K.moved (u := U) (U := U.calling g mk a) (Vm.Alike.refl U.vm) qK, qD⟩, fun U hU hW => ⟨rfl, by rw [hU], by rw [hU]; exact hPc, va_K.moved hW.alike hKc, hDc.weaken (fun _ _ _ _ => trivial)⟩⟩ rfl rfl hl.1 rfl (lv_room (Nat.le_of_ble_eq_true rfl)) dX1_init_12 ⟨show 1 + 5 ≤ 6 by omega, show 6 + 24120 ≤ 24126 by omega⟩) hS (fun q _ h => hFc q h) hFc (fun u t H1 locs ht hvm hw hB hz1 hk1 hS => ?_)
  obtain ⟨fn_4, fk_5, fd_6, fs_7, fz_8, c1_9, c2_10, c3_11, c4_12, c5_13, hP1, hK1, hD1⟩ := hB
  rw [ht] at hP1
  have hK1 := va_K.moved hvm.symm hK1
  try dsimp only at hw
  obtain ⟨hP, hD⟩ := va_join (wr := [(se, .inr (1, [.int 0, .int 0, .int 0, .null, .int 0, .null, .int 0, .int 0, .int 0, .int 0]))]) (w1 := [(q_2, .inr (2, [.ref fn_4, .ref fk_5, .ref fd_6, .ref fs_7, .ref fz_8, .int 0])), (fn_4, .inl (c1_9, 96, .inl (fun _ => 0))), (fk_5, .inl (c2_10, 8, .inl (fun _ => 0))), (fd_6, .inl (c3_11, 24000, .inl (fun _ => 0))), (fs_7, .inl (c4_12, 8, .inl (fun _ => 0))), (fz_8, .inl (c5_13, 8, .inl (fun _ => 0)))]) hP hD [1] [0] rfl rfl (by decide) (by decide) hk1 hFc hP1 hD1
  have hK := (hK.sub (tys' := []) [] rfl).app hK1
  generalize H1 = H at hP hS ⊢
  have hK : va_K (dC, dI) vwCl [(c1_9, .byte), (c2_10, .int), (c3_11, .byte), (c4_12, .int), (c5_13, .int)] s := hK
  have hP : va_P (dC, dI) vwCl [(se, .inr (1, [.int 0, .int 0, .int 0, .null, .int 0, .null, .int 0, .int 0, .int 0, .int 0])), (q_2, .inr (2, [.ref fn_4, .ref fk_5, .ref fd_6, .ref fs_7, .ref fz_8, .int 0])), (fn_4, .inl (c1_9, 96, .inl (fun _ => 0))), (fk_5, .inl (c2_10, 8, .inl (fun _ => 0))), (fd_6, .inl (c3_11, 24000, .inl (fun _ => 0))), (fs_7, .inl (c4_12, 8, .inl (fun _ => 0))), (fz_8, .inl (c5_13, 8, .inl (fun _ => 0)))] H := hP
  have hD : va_D A [(se, .inr (1, [.int 0, .int 0, .int 0, .null, .int 0, .null, .int 0, .int 0, .int 0, .int 0])), (q_2, .inr (2, [.ref fn_4, .ref fk_5, .ref fd_6, .ref fs_7, .ref fz_8, .int 0])), (fn_4, .inl (c1_9, 96, .inl (fun _ => 0))), (fk_5, .inl (c2_10, 8, .inl (fun _ => 0))), (fd_6, .inl (c3_11, 24000, .inl (fun _ => 0))), (fs_7, .inl (c4_12, 8, .inl (fun _ => 0))), (fz_8, .inl (c5_13, 8, .inl (fun _ => 0)))] := hD
  refine W.widen (k := 6) (n := 24126) (by omega) (by omega) ?_
  refine va_putF (D := (dC, dI)) (ci := 1) (v := .ref q_2) (ty := .object "BatchTransfer$Shelf") (C := RX1) (T := TX1) (N := 10) hx hb hts iX1 tyX1 tyX1_ok nmX1 hown hK hP hD hS 0 rfl rfl 3 (by decide) (hts (.fieldLink RX1 14 "BatchTransfer$Sender" "files" "LBatchTransfer$Shelf;") (by decide +kernel)) (fun _ h9 => h9) rfl hin rfl (by decide +kernel) rfl rfl (Nat.le_of_ble_eq_true rfl) dX1_init_15 (fun H locs hP hD hS => ?_)
  have hP : va_P (dC, dI) vwCl [(se, .inr (1, [.int 0, .int 0, .int 0, .ref q_2, .int 0, .null, .int 0, .int 0, .int 0, .int 0])), (q_2, .inr (2, [.ref fn_4, .ref fk_5, .ref fd_6, .ref fs_7, .ref fz_8, .int 0])), (fn_4, .inl (c1_9, 96, .inl (fun _ => 0))), (fk_5, .inl (c2_10, 8, .inl (fun _ => 0))), (fd_6, .inl (c3_11, 24000, .inl (fun _ => 0))), (fs_7, .inl (c4_12, 8, .inl (fun _ => 0))), (fz_8, .inl (c5_13, 8, .inl (fun _ => 0)))] H := hP
  have hD : va_D A [(se, .inr (1, [.int 0, .int 0, .int 0, .ref q_2, .int 0, .null, .int 0, .int 0, .int 0, .int 0])), (q_2, .inr (2, [.ref fn_4, .ref fk_5, .ref fd_6, .ref fs_7, .ref fz_8, .int 0])), (fn_4, .inl (c1_9, 96, .inl (fun _ => 0))), (fk_5, .inl (c2_10, 8, .inl (fun _ => 0))), (fd_6, .inl (c3_11, 24000, .inl (fun _ => 0))), (fs_7, .inl (c4_12, 8, .inl (fun _ => 0))), (fz_8, .inl (c5_13, 8, .inl (fun _ => 0)))] := hD
  refine lv_aload_n hx hb dX1_init_18 rfl (lv_at hl 0 rfl) ?_
  refine va_gets (v := .ref un) hx hb hX1 hS hown (hts (.fieldLink RX1 20 "BatchTransfer$Unit" "HEAD" "LBatchTransfer$Unit;") (by decide +kernel)) (fun _ h9 => h9) dX1_init_19 ?_
  refine va_put (D := (dC, dI)) (ci := 1) (v := .ref un) (ty := .object "BatchTransfer$Unit") (C := RX1) (T := TX1) (N := 10) hx hb hts iX1 tyX1 tyX1_ok nmX1 hown hK hP hD hS 0 rfl rfl 5 (by decide) (hts (.fieldLink RX1 26 "BatchTransfer$Sender" "unit" "LBatchTransfer$Unit;") (by decide +kernel)) (fun _ h9 => h9) rfl (by decide +kernel) rfl rfl (Nat.le_of_ble_eq_true rfl) dX1_init_22 (fun H locs hP hD hS => ?_)
  have hP : va_P (dC, dI) vwCl [(se, .inr (1, [.int 0, .int 0, .int 0, .ref q_2, .int 0, .ref un, .int 0, .int 0, .int 0, .int 0])), (q_2, .inr (2, [.ref fn_4, .ref fk_5, .ref fd_6, .ref fs_7, .ref fz_8, .int 0])), (fn_4, .inl (c1_9, 96, .inl (fun _ => 0))), (fk_5, .inl (c2_10, 8, .inl (fun _ => 0))), (fd_6, .inl (c3_11, 24000, .inl (fun _ => 0))), (fs_7, .inl (c4_12, 8, .inl (fun _ => 0))), (fz_8, .inl (c5_13, 8, .inl (fun _ => 0)))] H := hP
  have hD : va_D A [(se, .inr (1, [.int 0, .int 0, .int 0, .ref q_2, .int 0, .ref un, .int 0, .int 0, .int 0, .int 0])), (q_2, .inr (2, [.ref fn_4, .ref fk_5, .ref fd_6, .ref fs_7, .ref fz_8, .int 0])), (fn_4, .inl (c1_9, 96, .inl (fun _ => 0))), (fk_5, .inl (c2_10, 8, .inl (fun _ => 0))), (fd_6, .inl (c3_11, 24000, .inl (fun _ => 0))), (fs_7, .inl (c4_12, 8, .inl (fun _ => 0))), (fz_8, .inl (c5_13, 8, .inl (fun _ => 0)))] := hD
  have hP9 := hP.sub (ws' := [(se, .inr (1, [.int 0, .int 0, .int 0, .ref q_2, .int 0, .ref un, .int 0, .int 0, .int 0, .int 0])), (q_2, .inr (2, [.ref fn_4, .ref fk_5, .ref fd_6, .ref fs_7, .ref fz_8, .int 0])), (fn_4, .inl (c1_9, 96, .inl (fun _ => 0))), (fk_5, .inl (c2_10, 8, .inl (fun _ => 0))), (fd_6, .inl (c3_11, 24000, .inl (fun _ => 0))), (fs_7, .inl (c4_12, 8, .inl (fun _ => 0))), (fz_8, .inl (c5_13, 8, .inl (fun _ => 0)))]) [0, 1, 2, 3, 4, 5, 6] rfl
  have hD9 := hD.sub (ws' := [(se, .inr (1, [.int 0, .int 0, .int 0, .ref q_2, .int 0, .ref un, .int 0, .int 0, .int 0, .int 0])), (q_2, .inr (2, [.ref fn_4, .ref fk_5, .ref fd_6, .ref fs_7, .ref fz_8, .int 0])), (fn_4, .inl (c1_9, 96, .inl (fun _ => 0))), (fk_5, .inl (c2_10, 8, .inl (fun _ => 0))), (fd_6, .inl (c3_11, 24000, .inl (fun _ => 0))), (fs_7, .inl (c4_12, 8, .inl (fun _ => 0))), (fz_8, .inl (c5_13, 8, .inl (fun _ => 0)))]) [0, 1, 2, 3, 4, 5, 6] (by decide) rfl
  have hK9 := hK.sub (tys' := [(c1_9, .byte), (c2_10, .int), (c3_11, .byte), (c4_12, .int), (c5_13, .int)]) [0, 1, 2, 3, 4] rfl
  exact W.vret hx hb hr (fun t ht hW => ⟨⟨(), rfl, trivial, q_2, fn_4, fk_5, fd_6, fs_7, fz_8, c1_9, c2_10, c3_11, c4_12, c5_13, by rw [ht]; exact hP9, va_K.moved hW.alike hK9, hD9⟩, hS.F ht⟩) hS.2.2 dX1_init_25

set_option maxHeartbeats 4000000 in
set_option maxRecDepth 100000 in
theorem k_receiver (l : Launch) (dC : Nat → ClassId) (dI : Nat → Nat → Nat) (re : Nat) (sz : Nat) : Met l yX0_init wsX0_init ({ frames := 2, cells := 6, slots := 24702, locals := 33 }) (va_Pc [.ref re] (fun U => U.heap.size = sz ∧ va_P (dC, dI) vwCl [(re, .inr (0, [.int 0, .int 0, .int 0, .null, .int 0, .int 0, .int 0, .int 0, .int 0]))] U.heap ∧ va_K (dC, dI) vwCl [] U ∧ va_D (fun _ => True) [(re, .inr (0, [.int 0, .int 0, .int 0, .null, .int 0, .int 0, .int 0, .int 0, .int 0]))] ∧ va_Nw (.methodLinkNest RX0 3 yX3_init "BatchTransfer") U)) (va_Qv (fun (_ : Unit) => True) (fun (_ : Unit) (t : State) => ∃ (fl : Nat), ∃ (fn : Nat), ∃ (fk : Nat), ∃ (fd : Nat), ∃ (fs : Nat), ∃ (fz : Nat), ∃ (c1 : ClassId), ∃ (c2 : ClassId), ∃ (c3 : ClassId), ∃ (c4 : ClassId), ∃ (c5 : ClassId), va_P (dC, dI) vwCl [(re, .inr (0, [.int 0, .int 0, .int 0, .ref fl, .int 0, .int 0, .int 0, .int 0, .int 0])), (fl, .inr (2, [.ref fn, .ref fk, .ref fd, .ref fs, .ref fz, .int 0])), (fn, .inl (c1, 96, .inl (fun _ => 0))), (fk, .inl (c2, 8, .inl (fun _ => 0))), (fd, .inl (c3, 24576, .inl (fun _ => 0))), (fs, .inl (c4, 8, .inl (fun _ => 0))), (fz, .inl (c5, 8, .inl (fun _ => 0)))] t.heap ∧ va_K (dC, dI) vwCl [(c1, .byte), (c2, .int), (c3, .byte), (c4, .int), (c5, .int)] t ∧ va_D (va_A [(re, .inr (0, [.int 0, .int 0, .int 0, .null, .int 0, .int 0, .int 0, .int 0, .int 0]))] sz) [(re, .inr (0, [.int 0, .int 0, .int 0, .ref fl, .int 0, .int 0, .int 0, .int 0, .int 0])), (fl, .inr (2, [.ref fn, .ref fk, .ref fd, .ref fs, .ref fz, .int 0])), (fn, .inl (c1, 96, .inl (fun _ => 0))), (fk, .inl (c2, 8, .inl (fun _ => 0))), (fd, .inl (c3, 24576, .inl (fun _ => 0))), (fs, .inl (c4, 8, .inl (fun _ => 0))), (fz, .inl (c5, 8, .inl (fun _ => 0)))]) (va_A [(re, .inr (0, [.int 0, .int 0, .int 0, .null, .int 0, .int 0, .int 0, .int 0, .int 0]))] sz)) 6 24702 (va_A [(re, .inr (0, [.int 0, .int 0, .int 0, .null, .int 0, .int 0, .int 0, .int 0, .int 0]))] sz) := by
  refine Met.ofW (cc := cX0_init) (maxL := 1) (ret := none) (by decide) rfl ?_
  intro p e s m args below meth c s₁ B hml hv
  obtain ⟨rfl, hsz, hP, hK, hD0, hX0⟩ := hv
  have hx := B.exec
  have hb := B.bytes
  have hr := B.returns
  have hts := atoms_spec (ws := wsX0_init) B.pre
  have hown : s.vm.findClass RX0 = some m.cls := findClass_of_methodNamed B.named
  have hlocks := B.notSynchronized
  have hin : meth.name = "<init>" := (name_of_methodNamed B.named B.method).1
  subst hsz
  have hD := hD0.self (sz := s.heap.size)
  generalize hAe : va_A [(re, .inr (0, [.int 0, .int 0, .int 0, .null, .int 0, .int 0, .int 0, .int 0, .int 0]))] s.heap.size = A at hD ⊢
  have hA : ∀ q : Nat, s.heap.size ≤ q → A q := fun q h => by rw [← hAe]; exact Or.inr h
  have hS : va_S A s.heap s.heap [] := va_S.rf
  have hP : va_P (dC, dI) vwCl [(re, .inr (0, [.int 0, .int 0, .int 0, .null, .int 0, .int 0, .int 0, .int 0, .int 0]))] s.heap := hP
  have hl := lv_entry ([.ref re]) (n := 1) (Nat.le_of_ble_eq_true rfl)
  rw [lg_entry_eq]
  generalize (lg_sl ([.ref re]) ++ List.replicate (1 - (lg_sl ([.ref re])).length) Slot.unset).toArray = ls at hl ⊢
  have hl : lv_has ls 1 [(0, .ref re)] := hl
  have iX0 : ∀ w ∈ wsX00, w ∈ wsX0_init := by decide +kernel
  have iX2 : ∀ w ∈ wsX20, w ∈ wsX0_init := by decide +kernel
  refine lv_aload_n hx hb dX0_init_0 rfl (lv_at hl 0 rfl) ?_
  have hPc := hP.sub (ws' := []) [] rfl
  have hDc := hD.sub (ws' := []) [] (by decide) rfl
  have hKc := hK.sub (tys' := []) [] rfl
  have hFc := va_free (wc := []) hD hS hA [] rfl
  refine va_callv (va_runIN (As := []) (rest := []) ⟨hx, hb, hml, hown, hts⟩ (k_side l dC dI re s.heap.size) ⟨va_cnB 0 hts gX0_init_X3_init_n3 rfl rfl rfl hX0 (hts (.initialized RX3) (by decide +kernel)) (by decide +kernel) ⟨Nat.le_of_ble_eq_true rfl, Nat.le_of_ble_eq_true rfl⟩, rfl, (hts (.instanceMethod yX3_init) (by decide +kernel))⟩ ⟨fun a U g mk q => by obtain ⟨q0, q1, qP, qK, qD⟩ := q; exact ⟨q0, q1, qP, va_K.moved (u := U) (U := U.calling g mk a) (Vm.Alike.refl U.vm) qK, qD⟩, fun U hU hW => ⟨rfl, by rw [hU], by rw [hU]; exact hPc, va_K.moved hW.alike hKc, hDc.weaken (fun _ _ _ _ => trivial)⟩⟩ rfl rfl hl.1 rfl (lv_room (Nat.le_of_ble_eq_true rfl)) dX0_init_1 ⟨show 0 + 0 ≤ 6 by omega, show 0 + 0 ≤ 24702 by omega⟩) hS (fun q _ h => hFc q h) hFc (fun u t H1 locs ht hvm hw hB hz1 hk1 hS => ?_)
  have hP1 : va_P (dC, dI) vwCl [] H1 := fun k q h => by simp at h
  have hD1 : va_D (va_A [] s.heap.size) [] := ⟨fun i j p q h => by simp at h, fun k q h => by simp at h⟩
  have hK1 : va_K (dC, dI) vwCl [] s := ⟨hK.1, fun k q h => by simp at h⟩
  try dsimp only at hw
  obtain ⟨hP, hD⟩ := va_join (wr := [(re, .inr (0, [.int 0, .int 0, .int 0, .null, .int 0, .int 0, .int 0, .int 0, .int 0]))]) (w1 := []) hP hD [] [0] rfl rfl (by decide) (by decide) hk1 hFc hP1 hD1
  have hK := (hK.sub (tys' := []) [] rfl).app hK1
  generalize H1 = H at hP hS ⊢
  have hK : va_K (dC, dI) vwCl [] s := hK
  have hP : va_P (dC, dI) vwCl [(re, .inr (0, [.int 0, .int 0, .int 0, .null, .int 0, .int 0, .int 0, .int 0, .int 0]))] H := hP
  have hD : va_D A [(re, .inr (0, [.int 0, .int 0, .int 0, .null, .int 0, .int 0, .int 0, .int 0, .int 0]))] := hD
  refine lv_aload_n hx hb dX0_init_4 rfl (lv_at hl 0 rfl) ?_
  refine va_new (ci := 2) (fs := [.null, .null, .null, .null, .null, .int 0]) (C := RX2) (T := TX2) (N := 6) hx hb hts iX2 tyX2 tyX2_ok hown (hts (.classLink RX0 9 RX2) (by decide +kernel)) (hts (.instantiable RX2 6) (by decide +kernel)) (hts (.initialized RX2) (by decide +kernel)) hK hP hD hS hA rfl (fun j hj => by rcases (show j = 0 ∨ j = 1 ∨ j = 2 ∨ j = 3 ∨ j = 4 ∨ j = 5 by omega) with rfl | rfl | rfl | rfl | rfl | rfl <;> rfl) (show 0 + 1 ≤ 6 by omega) (show 0 + 6 ≤ 24702 by omega) dX0_init_5 (fun q_2 H hP hD hS => ?_)
  refine W.widen (k := 1) (n := 6) (by omega) (by omega) ?_
  have hP : va_P (dC, dI) vwCl [(re, .inr (0, [.int 0, .int 0, .int 0, .null, .int 0, .int 0, .int 0, .int 0, .int 0])), (q_2, .inr (2, [.null, .null, .null, .null, .null, .int 0]))] H := hP
  have hD : va_D A [(re, .inr (0, [.int 0, .int 0, .int 0, .null, .int 0, .int 0, .int 0, .int 0, .int 0])), (q_2, .inr (2, [.null, .null, .null, .null, .null, .int 0]))] := hD
  refine lv_dup hx hb dX0_init_8 rfl ?_
  refine lv_sipush (v := 24576) hx hb dX0_init_9 (by decide) ?_
  have hPc := hP.sub (ws' := [(q_2, .inr (2, [.null, .null, .null, .null, .null, .int 0]))]) [1] rfl
  have hDc := hD.sub (ws' := [(q_2, .inr (2, [.null, .null, .null, .null, .null, .int 0]))]) [1] (by decide) rfl
  have hKc := hK.sub (tys' := []) [] rfl
  have hFc := va_free (wc := [(q_2, .inr (2, [.null, .null, .null, .null, .null, .int 0]))]) hD hS hA [1] rfl
  refine va_callv (va_runI (As := [.int 24576]) (rest := [.ref q_2, .ref re]) ⟨hx, hb, hml, hown, hts⟩ (k_shelf24576 l dC dI q_2 H.size) (cwI 1 hts gX0_init_X2_init rfl rfl rfl (hts (.initialized RX2) (by decide +kernel)) (hts (.methodLink RX0 11 yX2_init) (by decide +kernel)) (hts (.instanceMethod yX2_init) (by decide +kernel)) rfl (by decide +kernel) ⟨Nat.le_of_ble_eq_true rfl, Nat.le_of_ble_eq_true rfl⟩) ⟨fun a U g mk q => by obtain ⟨q0, q1, qP, qK, qD⟩ := q; exact ⟨q0, q1, qP, va_K.moved (u := U) (U := U.calling g mk a) (Vm.Alike.refl U.vm) qK, qD⟩, fun U hU hW => ⟨rfl, by rw [hU], by rw [hU]; exact hPc, va_K.moved hW.alike hKc, hDc.weaken (fun _ _ _ _ => trivial)⟩⟩ rfl rfl hl.1 rfl (lv_room (Nat.le_of_ble_eq_true rfl)) dX0_init_12 ⟨show 1 + 5 ≤ 6 by omega, show 6 + 24696 ≤ 24702 by omega⟩) hS (fun q _ h => hFc q h) hFc (fun u t H1 locs ht hvm hw hB hz1 hk1 hS => ?_)
  obtain ⟨fn_4, fk_5, fd_6, fs_7, fz_8, c1_9, c2_10, c3_11, c4_12, c5_13, hP1, hK1, hD1⟩ := hB
  rw [ht] at hP1
  have hK1 := va_K.moved hvm.symm hK1
  try dsimp only at hw
  obtain ⟨hP, hD⟩ := va_join (wr := [(re, .inr (0, [.int 0, .int 0, .int 0, .null, .int 0, .int 0, .int 0, .int 0, .int 0]))]) (w1 := [(q_2, .inr (2, [.ref fn_4, .ref fk_5, .ref fd_6, .ref fs_7, .ref fz_8, .int 0])), (fn_4, .inl (c1_9, 96, .inl (fun _ => 0))), (fk_5, .inl (c2_10, 8, .inl (fun _ => 0))), (fd_6, .inl (c3_11, 24576, .inl (fun _ => 0))), (fs_7, .inl (c4_12, 8, .inl (fun _ => 0))), (fz_8, .inl (c5_13, 8, .inl (fun _ => 0)))]) hP hD [1] [0] rfl rfl (by decide) (by decide) hk1 hFc hP1 hD1
  have hK := (hK.sub (tys' := []) [] rfl).app hK1
  generalize H1 = H at hP hS ⊢
  have hK : va_K (dC, dI) vwCl [(c1_9, .byte), (c2_10, .int), (c3_11, .byte), (c4_12, .int), (c5_13, .int)] s := hK
  have hP : va_P (dC, dI) vwCl [(re, .inr (0, [.int 0, .int 0, .int 0, .null, .int 0, .int 0, .int 0, .int 0, .int 0])), (q_2, .inr (2, [.ref fn_4, .ref fk_5, .ref fd_6, .ref fs_7, .ref fz_8, .int 0])), (fn_4, .inl (c1_9, 96, .inl (fun _ => 0))), (fk_5, .inl (c2_10, 8, .inl (fun _ => 0))), (fd_6, .inl (c3_11, 24576, .inl (fun _ => 0))), (fs_7, .inl (c4_12, 8, .inl (fun _ => 0))), (fz_8, .inl (c5_13, 8, .inl (fun _ => 0)))] H := hP
  have hD : va_D A [(re, .inr (0, [.int 0, .int 0, .int 0, .null, .int 0, .int 0, .int 0, .int 0, .int 0])), (q_2, .inr (2, [.ref fn_4, .ref fk_5, .ref fd_6, .ref fs_7, .ref fz_8, .int 0])), (fn_4, .inl (c1_9, 96, .inl (fun _ => 0))), (fk_5, .inl (c2_10, 8, .inl (fun _ => 0))), (fd_6, .inl (c3_11, 24576, .inl (fun _ => 0))), (fs_7, .inl (c4_12, 8, .inl (fun _ => 0))), (fz_8, .inl (c5_13, 8, .inl (fun _ => 0)))] := hD
  refine W.widen (k := 6) (n := 24702) (by omega) (by omega) ?_
  refine va_putF (D := (dC, dI)) (ci := 0) (v := .ref q_2) (ty := .object "BatchTransfer$Shelf") (C := RX0) (T := TX0) (N := 9) hx hb hts iX0 tyX0 tyX0_ok nmX0 hown hK hP hD hS 0 rfl rfl 3 (by decide) (hts (.fieldLink RX0 14 "BatchTransfer$Receiver" "arrived" "LBatchTransfer$Shelf;") (by decide +kernel)) (fun _ h9 => h9) rfl hin rfl (by decide +kernel) rfl rfl (Nat.le_of_ble_eq_true rfl) dX0_init_15 (fun H locs hP hD hS => ?_)
  have hP : va_P (dC, dI) vwCl [(re, .inr (0, [.int 0, .int 0, .int 0, .ref q_2, .int 0, .int 0, .int 0, .int 0, .int 0])), (q_2, .inr (2, [.ref fn_4, .ref fk_5, .ref fd_6, .ref fs_7, .ref fz_8, .int 0])), (fn_4, .inl (c1_9, 96, .inl (fun _ => 0))), (fk_5, .inl (c2_10, 8, .inl (fun _ => 0))), (fd_6, .inl (c3_11, 24576, .inl (fun _ => 0))), (fs_7, .inl (c4_12, 8, .inl (fun _ => 0))), (fz_8, .inl (c5_13, 8, .inl (fun _ => 0)))] H := hP
  have hD : va_D A [(re, .inr (0, [.int 0, .int 0, .int 0, .ref q_2, .int 0, .int 0, .int 0, .int 0, .int 0])), (q_2, .inr (2, [.ref fn_4, .ref fk_5, .ref fd_6, .ref fs_7, .ref fz_8, .int 0])), (fn_4, .inl (c1_9, 96, .inl (fun _ => 0))), (fk_5, .inl (c2_10, 8, .inl (fun _ => 0))), (fd_6, .inl (c3_11, 24576, .inl (fun _ => 0))), (fs_7, .inl (c4_12, 8, .inl (fun _ => 0))), (fz_8, .inl (c5_13, 8, .inl (fun _ => 0)))] := hD
  have hP9 := hP.sub (ws' := [(re, .inr (0, [.int 0, .int 0, .int 0, .ref q_2, .int 0, .int 0, .int 0, .int 0, .int 0])), (q_2, .inr (2, [.ref fn_4, .ref fk_5, .ref fd_6, .ref fs_7, .ref fz_8, .int 0])), (fn_4, .inl (c1_9, 96, .inl (fun _ => 0))), (fk_5, .inl (c2_10, 8, .inl (fun _ => 0))), (fd_6, .inl (c3_11, 24576, .inl (fun _ => 0))), (fs_7, .inl (c4_12, 8, .inl (fun _ => 0))), (fz_8, .inl (c5_13, 8, .inl (fun _ => 0)))]) [0, 1, 2, 3, 4, 5, 6] rfl
  have hD9 := hD.sub (ws' := [(re, .inr (0, [.int 0, .int 0, .int 0, .ref q_2, .int 0, .int 0, .int 0, .int 0, .int 0])), (q_2, .inr (2, [.ref fn_4, .ref fk_5, .ref fd_6, .ref fs_7, .ref fz_8, .int 0])), (fn_4, .inl (c1_9, 96, .inl (fun _ => 0))), (fk_5, .inl (c2_10, 8, .inl (fun _ => 0))), (fd_6, .inl (c3_11, 24576, .inl (fun _ => 0))), (fs_7, .inl (c4_12, 8, .inl (fun _ => 0))), (fz_8, .inl (c5_13, 8, .inl (fun _ => 0)))]) [0, 1, 2, 3, 4, 5, 6] (by decide) rfl
  have hK9 := hK.sub (tys' := [(c1_9, .byte), (c2_10, .int), (c3_11, .byte), (c4_12, .int), (c5_13, .int)]) [0, 1, 2, 3, 4] rfl
  exact W.vret hx hb hr (fun t ht hW => ⟨⟨(), rfl, trivial, q_2, fn_4, fk_5, fd_6, fs_7, fz_8, c1_9, c2_10, c3_11, c4_12, c5_13, by rw [ht]; exact hP9, va_K.moved hW.alike hK9, hD9⟩, hS.F ht⟩) hS.2.2 dX0_init_18
