set_option maxHeartbeats 4000000 in
set_option maxRecDepth 100000 in
theorem m_end (l : Launch) (dC : Nat → ClassId) (dI : Nat → Nat → Nat) (mo m1 m2 m5 m6 m7 m8 m10 m11 m12 m13 m14 m18 m34 m35 m36 m37 : Nat) (n0 : Int32) (sz : Nat) : Met l yX8_end wsX8_end ({ frames := 0, cells := 0, slots := 0, locals := 0 }) (va_Pc [.ref mo, .int n0] (fun U => U.heap.size = sz ∧ va_P (dC, dI) vwCl [(mo, .inr (6, [.int 0, .ref m1, .ref m2, .int 0, .int 0, .ref m5, .ref m6, .ref m7, .ref m8, .int 0, .ref m10, .ref m11, .ref m12, .ref m13, .ref m14, .int 0, .int 0, .int 0, .ref m18, .int 0, .int 0, .int 0, .int 0, .int 0, .int 0, .int 0, .int 0, .int 0, .int 0, .int 0, .int 0, .int 0, .int 0, .int 0, .ref m34, .ref m35, .ref m36, .ref m37, .int 0]))] U.heap ∧ va_K (dC, dI) vwCl [] U ∧ va_D (fun _ => True) [(mo, .inr (6, [.int 0, .ref m1, .ref m2, .int 0, .int 0, .ref m5, .ref m6, .ref m7, .ref m8, .int 0, .ref m10, .ref m11, .ref m12, .ref m13, .ref m14, .int 0, .int 0, .int 0, .ref m18, .int 0, .int 0, .int 0, .int 0, .int 0, .int 0, .int 0, .int 0, .int 0, .int 0, .int 0, .int 0, .int 0, .int 0, .int 0, .ref m34, .ref m35, .ref m36, .ref m37, .int 0]))])) (va_Qi (fun (r : Int32) (_ : Unit) => (n0 < 0 → r = 0) ∧ (¬ n0 ≤ 0 → r = 0) ∧ (¬ n0 < 0 → n0 ≤ 0 → r = 1)) (fun (_ : Unit) (_ : State) => True) (va_A [(mo, .inr (6, [.int 0, .ref m1, .ref m2, .int 0, .int 0, .ref m5, .ref m6, .ref m7, .ref m8, .int 0, .ref m10, .ref m11, .ref m12, .ref m13, .ref m14, .int 0, .int 0, .int 0, .ref m18, .int 0, .int 0, .int 0, .int 0, .int 0, .int 0, .int 0, .int 0, .int 0, .int 0, .int 0, .int 0, .int 0, .int 0, .int 0, .ref m34, .ref m35, .ref m36, .ref m37, .int 0]))] sz)) 0 0 (va_A [(mo, .inr (6, [.int 0, .ref m1, .ref m2, .int 0, .int 0, .ref m5, .ref m6, .ref m7, .ref m8, .int 0, .ref m10, .ref m11, .ref m12, .ref m13, .ref m14, .int 0, .int 0, .int 0, .ref m18, .int 0, .int 0, .int 0, .int 0, .int 0, .int 0, .int 0, .int 0, .int 0, .int 0, .int 0, .int 0, .int 0, .int 0, .int 0, .ref m34, .ref m35, .ref m36, .ref m37, .int 0]))] sz) := by
  refine Met.ofW (cc := cX8_end) (maxL := 2) (ret := (some .boolean)) (by decide) rfl ?_
  intro p e s m args below meth c s₁ B hml hv
  obtain ⟨rfl, hsz, hP, hK, hD0⟩ := hv
  have hx := B.exec
  have hb := B.bytes
  have hr := B.returns
  have hts := atoms_spec (ws := wsX8_end) B.pre
  have hown : s.vm.findClass RX8 = some m.cls := findClass_of_methodNamed B.named
  have hlocks := B.notSynchronized
  subst hsz
  have hD := hD0.self (sz := s.heap.size)
  generalize hAe : va_A [(mo, .inr (6, [.int 0, .ref m1, .ref m2, .int 0, .int 0, .ref m5, .ref m6, .ref m7, .ref m8, .int 0, .ref m10, .ref m11, .ref m12, .ref m13, .ref m14, .int 0, .int 0, .int 0, .ref m18, .int 0, .int 0, .int 0, .int 0, .int 0, .int 0, .int 0, .int 0, .int 0, .int 0, .int 0, .int 0, .int 0, .int 0, .int 0, .ref m34, .ref m35, .ref m36, .ref m37, .int 0]))] s.heap.size = A at hD ⊢
  have hA : ∀ q : Nat, s.heap.size ≤ q → A q := fun q h => by rw [← hAe]; exact Or.inr h
  have hS : va_S A s.heap s.heap [] := va_S.rf
  have hP : va_P (dC, dI) vwCl [(mo, .inr (6, [.int 0, .ref m1, .ref m2, .int 0, .int 0, .ref m5, .ref m6, .ref m7, .ref m8, .int 0, .ref m10, .ref m11, .ref m12, .ref m13, .ref m14, .int 0, .int 0, .int 0, .ref m18, .int 0, .int 0, .int 0, .int 0, .int 0, .int 0, .int 0, .int 0, .int 0, .int 0, .int 0, .int 0, .int 0, .int 0, .int 0, .ref m34, .ref m35, .ref m36, .ref m37, .int 0]))] s.heap := hP
  have hl := lv_entry ([.ref mo, .int n0]) (n := 2) (Nat.le_of_ble_eq_true rfl)
  rw [lg_entry_eq]
  generalize (lg_sl ([.ref mo, .int n0]) ++ List.replicate (2 - (lg_sl ([.ref mo, .int n0])).length) Slot.unset).toArray = ls at hl ⊢
  have hl : lv_has ls 2 [(0, .ref mo), (1, .int n0)] := hl
  have iX8 : ∀ w ∈ wsX80, w ∈ wsX8_end := by decide +kernel
  refine lv_aload_n hx hb dX8_end_0 rfl (lv_at hl 0 rfl) ?_
  refine lv_iconst (v := 0) hx hb dX8_end_1 (by decide) ?_
  refine va_put (D := (dC, dI)) (ci := 6) (v := .int 0) (ty := .int) (C := RX8) (T := TX8) (N := 39) hx hb hts iX8 tyX8 tyX8_ok nmX8 hown hK hP hD hS 0 rfl rfl 0 (by decide) (hts (.fieldLink RX8 7 "BatchTransferModel" "thrownCode" "I") (by decide +kernel)) (fun _ h9 => h9) rfl (by decide +kernel) rfl rfl (Nat.le_of_ble_eq_true rfl) dX8_end_2 (fun H locs hP hD hS => ?_)
  have hP : va_P (dC, dI) vwCl [(mo, .inr (6, [.int 0, .ref m1, .ref m2, .int 0, .int 0, .ref m5, .ref m6, .ref m7, .ref m8, .int 0, .ref m10, .ref m11, .ref m12, .ref m13, .ref m14, .int 0, .int 0, .int 0, .ref m18, .int 0, .int 0, .int 0, .int 0, .int 0, .int 0, .int 0, .int 0, .int 0, .int 0, .int 0, .int 0, .int 0, .int 0, .int 0, .ref m34, .ref m35, .ref m36, .ref m37, .int 0]))] H := hP
  have hD : va_D A [(mo, .inr (6, [.int 0, .ref m1, .ref m2, .int 0, .int 0, .ref m5, .ref m6, .ref m7, .ref m8, .int 0, .ref m10, .ref m11, .ref m12, .ref m13, .ref m14, .int 0, .int 0, .int 0, .ref m18, .int 0, .int 0, .int 0, .int 0, .int 0, .int 0, .int 0, .int 0, .int 0, .int 0, .int 0, .int 0, .int 0, .int 0, .int 0, .ref m34, .ref m35, .ref m36, .ref m37, .int 0]))] := hD
  refine lv_iload_n hx hb dX8_end_5 rfl (lv_at hl 1 rfl) ?_
  refine lv_if_lt (tgt := 17) hx hb dX8_end_6 (by decide) (fun c_1 => ?_) (fun c_1 => ?_)
  · refine lv_iconst (v := 0) hx hb dX8_end_17 (by decide) ?_
    exact W.zret (v := 0) hx hb hr rfl (fun t ht hW => ⟨⟨0, (), rfl, ⟨fun _ => rfl, fun _ => rfl, fun h => absurd c_1 h⟩, trivial⟩, hS.F ht⟩) hS.2.2 dX8_end_18
  · refine lv_iload_n hx hb dX8_end_9 rfl (lv_at hl 1 rfl) ?_
    refine lv_aload_n hx hb dX8_end_10 rfl (lv_at hl 0 rfl) ?_
    refine va_get (D := (dC, dI)) (ci := 6) (v := .int 0) (C := RX8) (T := TX8) (N := 39) hx hb hts iX8 hown hK hP 0 rfl rfl 3 (by decide) (hts (.fieldLink RX8 21 "BatchTransferModel" "tapeLen" "I") (by decide +kernel)) (fun _ h9 => h9) rfl dX8_end_11 ?_
    refine lv_icmp_le (tgt := 19) hx hb dX8_end_14 (by decide) (fun c_2 => ?_) (fun c_2 => ?_)
    · refine lv_aload_n hx hb dX8_end_19 rfl (lv_at hl 0 rfl) ?_
      refine lv_iload_n hx hb dX8_end_20 rfl (lv_at hl 1 rfl) ?_
      refine va_put (D := (dC, dI)) (ci := 6) (v := .int n0) (ty := .int) (C := RX8) (T := TX8) (N := 39) hx hb hts iX8 tyX8 tyX8_ok nmX8 hown hK hP hD hS 0 rfl rfl 3 (by decide) (hts (.fieldLink RX8 21 "BatchTransferModel" "tapeLen" "I") (by decide +kernel)) (fun _ h9 => h9) rfl (by decide +kernel) rfl rfl (Nat.le_of_ble_eq_true rfl) dX8_end_21 (fun H locs hP hD hS => ?_)
      have hP : va_P (dC, dI) vwCl [(mo, .inr (6, [.int 0, .ref m1, .ref m2, .int n0, .int 0, .ref m5, .ref m6, .ref m7, .ref m8, .int 0, .ref m10, .ref m11, .ref m12, .ref m13, .ref m14, .int 0, .int 0, .int 0, .ref m18, .int 0, .int 0, .int 0, .int 0, .int 0, .int 0, .int 0, .int 0, .int 0, .int 0, .int 0, .int 0, .int 0, .int 0, .int 0, .ref m34, .ref m35, .ref m36, .ref m37, .int 0]))] H := hP
      have hD : va_D A [(mo, .inr (6, [.int 0, .ref m1, .ref m2, .int n0, .int 0, .ref m5, .ref m6, .ref m7, .ref m8, .int 0, .ref m10, .ref m11, .ref m12, .ref m13, .ref m14, .int 0, .int 0, .int 0, .ref m18, .int 0, .int 0, .int 0, .int 0, .int 0, .int 0, .int 0, .int 0, .int 0, .int 0, .int 0, .int 0, .int 0, .int 0, .int 0, .ref m34, .ref m35, .ref m36, .ref m37, .int 0]))] := hD
      refine lv_iconst (v := 1) hx hb dX8_end_24 (by decide) ?_
      exact W.zret (v := 1) hx hb hr rfl (fun t ht hW => ⟨⟨1, (), rfl, ⟨fun h => absurd h c_1, fun h => absurd c_2 h, fun _ _ => rfl⟩, trivial⟩, hS.F ht⟩) hS.2.2 dX8_end_25
    · refine lv_iconst (v := 0) hx hb dX8_end_17 (by decide) ?_
      exact W.zret (v := 0) hx hb hr rfl (fun t ht hW => ⟨⟨0, (), rfl, ⟨fun _ => rfl, fun _ => rfl, fun _ h => absurd h c_2⟩, trivial⟩, hS.F ht⟩) hS.2.2 dX8_end_18

set_option maxHeartbeats 4000000 in
set_option maxRecDepth 100000 in
theorem m_file (l : Launch) (dC : Nat → ClassId) (dI : Nat → Nat → Nat) (mo m1 m2 m5 m6 m7 m8 m10 m11 m12 m13 m14 m18 m34 m35 m36 m37 : Nat)  (sz : Nat) : Met l yX8_file wsX8_file ({ frames := 0, cells := 0, slots := 0, locals := 0 }) (va_Pc [.ref mo] (fun U => U.heap.size = sz ∧ va_P (dC, dI) vwCl [(mo, .inr (6, [.int 0, .ref m1, .ref m2, .int 0, .int 0, .ref m5, .ref m6, .ref m7, .ref m8, .int 0, .ref m10, .ref m11, .ref m12, .ref m13, .ref m14, .int 0, .int 0, .int 0, .ref m18, .int 0, .int 0, .int 0, .int 0, .int 0, .int 0, .int 0, .int 0, .int 0, .int 0, .int 0, .int 0, .int 0, .int 0, .int 0, .ref m34, .ref m35, .ref m36, .ref m37, .int 0]))] U.heap ∧ va_K (dC, dI) vwCl [] U ∧ va_D (fun _ => True) [(mo, .inr (6, [.int 0, .ref m1, .ref m2, .int 0, .int 0, .ref m5, .ref m6, .ref m7, .ref m8, .int 0, .ref m10, .ref m11, .ref m12, .ref m13, .ref m14, .int 0, .int 0, .int 0, .ref m18, .int 0, .int 0, .int 0, .int 0, .int 0, .int 0, .int 0, .int 0, .int 0, .int 0, .int 0, .int 0, .int 0, .int 0, .int 0, .ref m34, .ref m35, .ref m36, .ref m37, .int 0]))])) (va_Qi (fun (r : Int32) (_ : Unit) => r = -1) (fun (_ : Unit) (_ : State) => True) (va_A [(mo, .inr (6, [.int 0, .ref m1, .ref m2, .int 0, .int 0, .ref m5, .ref m6, .ref m7, .ref m8, .int 0, .ref m10, .ref m11, .ref m12, .ref m13, .ref m14, .int 0, .int 0, .int 0, .ref m18, .int 0, .int 0, .int 0, .int 0, .int 0, .int 0, .int 0, .int 0, .int 0, .int 0, .int 0, .int 0, .int 0, .int 0, .int 0, .ref m34, .ref m35, .ref m36, .ref m37, .int 0]))] sz)) 0 0 (va_A [(mo, .inr (6, [.int 0, .ref m1, .ref m2, .int 0, .int 0, .ref m5, .ref m6, .ref m7, .ref m8, .int 0, .ref m10, .ref m11, .ref m12, .ref m13, .ref m14, .int 0, .int 0, .int 0, .ref m18, .int 0, .int 0, .int 0, .int 0, .int 0, .int 0, .int 0, .int 0, .int 0, .int 0, .int 0, .int 0, .int 0, .int 0, .int 0, .ref m34, .ref m35, .ref m36, .ref m37, .int 0]))] sz) := by
  refine Met.ofW (cc := cX8_file) (maxL := 4) (ret := (some .int)) (by decide) rfl ?_
  intro p e s m args below meth c s₁ B hml hv
  obtain ⟨rfl, hsz, hP, hK, hD0⟩ := hv
  have hx := B.exec
  have hb := B.bytes
  have hr := B.returns
  have hts := atoms_spec (ws := wsX8_file) B.pre
  have hown : s.vm.findClass RX8 = some m.cls := findClass_of_methodNamed B.named
  have hlocks := B.notSynchronized
  subst hsz
  have hD := hD0.self (sz := s.heap.size)
  generalize hAe : va_A [(mo, .inr (6, [.int 0, .ref m1, .ref m2, .int 0, .int 0, .ref m5, .ref m6, .ref m7, .ref m8, .int 0, .ref m10, .ref m11, .ref m12, .ref m13, .ref m14, .int 0, .int 0, .int 0, .ref m18, .int 0, .int 0, .int 0, .int 0, .int 0, .int 0, .int 0, .int 0, .int 0, .int 0, .int 0, .int 0, .int 0, .int 0, .int 0, .ref m34, .ref m35, .ref m36, .ref m37, .int 0]))] s.heap.size = A at hD ⊢
  have hA : ∀ q : Nat, s.heap.size ≤ q → A q := fun q h => by rw [← hAe]; exact Or.inr h
  have hS : va_S A s.heap s.heap [] := va_S.rf
  have hP : va_P (dC, dI) vwCl [(mo, .inr (6, [.int 0, .ref m1, .ref m2, .int 0, .int 0, .ref m5, .ref m6, .ref m7, .ref m8, .int 0, .ref m10, .ref m11, .ref m12, .ref m13, .ref m14, .int 0, .int 0, .int 0, .ref m18, .int 0, .int 0, .int 0, .int 0, .int 0, .int 0, .int 0, .int 0, .int 0, .int 0, .int 0, .int 0, .int 0, .int 0, .int 0, .ref m34, .ref m35, .ref m36, .ref m37, .int 0]))] s.heap := hP
  have hl := lv_entry ([.ref mo]) (n := 4) (Nat.le_of_ble_eq_true rfl)
  rw [lg_entry_eq]
  generalize (lg_sl ([.ref mo]) ++ List.replicate (4 - (lg_sl ([.ref mo])).length) Slot.unset).toArray = ls at hl ⊢
  have hl : lv_has ls 4 [(0, .ref mo)] := hl
  have iX8 : ∀ w ∈ wsX80, w ∈ wsX8_file := by decide +kernel
  refine lv_aload_n hx hb dX8_file_0 rfl (lv_at hl 0 rfl) ?_
  refine lv_iconst (v := 0) hx hb dX8_file_1 (by decide) ?_
  refine va_put (D := (dC, dI)) (ci := 6) (v := .int 0) (ty := .int) (C := RX8) (T := TX8) (N := 39) hx hb hts iX8 tyX8 tyX8_ok nmX8 hown hK hP hD hS 0 rfl rfl 0 (by decide) (hts (.fieldLink RX8 7 "BatchTransferModel" "thrownCode" "I") (by decide +kernel)) (fun _ h9 => h9) rfl (by decide +kernel) rfl rfl (Nat.le_of_ble_eq_true rfl) dX8_file_2 (fun H locs hP hD hS => ?_)
  have hP : va_P (dC, dI) vwCl [(mo, .inr (6, [.int 0, .ref m1, .ref m2, .int 0, .int 0, .ref m5, .ref m6, .ref m7, .ref m8, .int 0, .ref m10, .ref m11, .ref m12, .ref m13, .ref m14, .int 0, .int 0, .int 0, .ref m18, .int 0, .int 0, .int 0, .int 0, .int 0, .int 0, .int 0, .int 0, .int 0, .int 0, .int 0, .int 0, .int 0, .int 0, .int 0, .ref m34, .ref m35, .ref m36, .ref m37, .int 0]))] H := hP
  have hD : va_D A [(mo, .inr (6, [.int 0, .ref m1, .ref m2, .int 0, .int 0, .ref m5, .ref m6, .ref m7, .ref m8, .int 0, .ref m10, .ref m11, .ref m12, .ref m13, .ref m14, .int 0, .int 0, .int 0, .ref m18, .int 0, .int 0, .int 0, .int 0, .int 0, .int 0, .int 0, .int 0, .int 0, .int 0, .int 0, .int 0, .int 0, .int 0, .int 0, .ref m34, .ref m35, .ref m36, .ref m37, .int 0]))] := hD
  refine lv_aload_n hx hb dX8_file_5 rfl (lv_at hl 0 rfl) ?_
  refine va_get (D := (dC, dI)) (ci := 6) (v := .int 0) (C := RX8) (T := TX8) (N := 39) hx hb hts iX8 hown hK hP 0 rfl rfl 3 (by decide) (hts (.fieldLink RX8 21 "BatchTransferModel" "tapeLen" "I") (by decide +kernel)) (fun _ h9 => h9) rfl dX8_file_6 ?_
  refine lv_istore_n (lv' := [(1, .int 0), (0, .ref mo)]) hx hb dX8_file_9 rfl hl (by decide) rfl (fun ls hl => ?_)
  refine lv_aload_n hx hb dX8_file_10 rfl (lv_at hl 1 rfl) ?_
  refine lv_iconst (v := 0) hx hb dX8_file_11 (by decide) ?_
  refine va_put (D := (dC, dI)) (ci := 6) (v := .int 0) (ty := .int) (C := RX8) (T := TX8) (N := 39) hx hb hts iX8 tyX8 tyX8_ok nmX8 hown hK hP hD hS 0 rfl rfl 3 (by decide) (hts (.fieldLink RX8 21 "BatchTransferModel" "tapeLen" "I") (by decide +kernel)) (fun _ h9 => h9) rfl (by decide +kernel) rfl rfl (Nat.le_of_ble_eq_true rfl) dX8_file_12 (fun H locs hP hD hS => ?_)
  have hP : va_P (dC, dI) vwCl [(mo, .inr (6, [.int 0, .ref m1, .ref m2, .int 0, .int 0, .ref m5, .ref m6, .ref m7, .ref m8, .int 0, .ref m10, .ref m11, .ref m12, .ref m13, .ref m14, .int 0, .int 0, .int 0, .ref m18, .int 0, .int 0, .int 0, .int 0, .int 0, .int 0, .int 0, .int 0, .int 0, .int 0, .int 0, .int 0, .int 0, .int 0, .int 0, .ref m34, .ref m35, .ref m36, .ref m37, .int 0]))] H := hP
  have hD : va_D A [(mo, .inr (6, [.int 0, .ref m1, .ref m2, .int 0, .int 0, .ref m5, .ref m6, .ref m7, .ref m8, .int 0, .ref m10, .ref m11, .ref m12, .ref m13, .ref m14, .int 0, .int 0, .int 0, .ref m18, .int 0, .int 0, .int 0, .int 0, .int 0, .int 0, .int 0, .int 0, .int 0, .int 0, .int 0, .int 0, .int 0, .int 0, .int 0, .ref m34, .ref m35, .ref m36, .ref m37, .int 0]))] := hD
  refine lv_iconst (v := 0) hx hb dX8_file_15 (by decide) ?_
  refine lv_istore_n (lv' := [(2, .int 0), (1, .int 0), (0, .ref mo)]) hx hb dX8_file_16 rfl hl (by decide) rfl (fun ls hl => ?_)
  refine lv_iload_n hx hb dX8_file_17 rfl (lv_at hl 0 rfl) ?_
  refine lv_iload_n hx hb dX8_file_18 rfl (lv_at hl 1 rfl) ?_
  refine lv_icmp_ge (tgt := 37) hx hb dX8_file_19 (by decide) (fun c_1 => ?_) (fun c_1 => absurd (by decide) c_1)
  refine lv_iload_n hx hb dX8_file_37 rfl (lv_at hl 0 rfl) ?_
  refine lv_iload_n hx hb dX8_file_38 rfl (lv_at hl 1 rfl) ?_
  refine lv_icmp_eq (tgt := 80) hx hb dX8_file_39 (by decide) (fun c_2 => ?_) (fun c_2 => absurd (by decide) c_2)
  refine lv_iconst (v := (-1)) hx hb dX8_file_80 (by decide) ?_
  exact W.iret (v := (-1)) hx hb hr (fun t ht hW => ⟨⟨(-1), (), rfl, rfl, trivial⟩, hS.F ht⟩) hS.2.2 dX8_file_81

set_option maxHeartbeats 4000000 in
set_option maxRecDepth 100000 in
theorem m_clear (l : Launch) (dC : Nat → ClassId) (dI : Nat → Nat → Nat) (mo m1 m2 m5 m6 m7 m8 m10 m11 m12 m13 m14 m18 m34 m35 m36 m37 : Nat)  (sz : Nat) : Met l yX8_clear wsX8_clear ({ frames := 0, cells := 0, slots := 0, locals := 0 }) (va_Pc [.ref mo] (fun U => U.heap.size = sz ∧ va_P (dC, dI) vwCl [(mo, .inr (6, [.int 0, .ref m1, .ref m2, .int 0, .int 0, .ref m5, .ref m6, .ref m7, .ref m8, .int 0, .ref m10, .ref m11, .ref m12, .ref m13, .ref m14, .int 0, .int 0, .int 0, .ref m18, .int 0, .int 0, .int 0, .int 0, .int 0, .int 0, .int 0, .int 0, .int 0, .int 0, .int 0, .int 0, .int 0, .int 0, .int 0, .ref m34, .ref m35, .ref m36, .ref m37, .int 0]))] U.heap ∧ va_K (dC, dI) vwCl [] U ∧ va_D (fun _ => True) [(mo, .inr (6, [.int 0, .ref m1, .ref m2, .int 0, .int 0, .ref m5, .ref m6, .ref m7, .ref m8, .int 0, .ref m10, .ref m11, .ref m12, .ref m13, .ref m14, .int 0, .int 0, .int 0, .ref m18, .int 0, .int 0, .int 0, .int 0, .int 0, .int 0, .int 0, .int 0, .int 0, .int 0, .int 0, .int 0, .int 0, .int 0, .int 0, .ref m34, .ref m35, .ref m36, .ref m37, .int 0]))])) (va_Qi (fun (r : Int32) (_ : Unit) => r = 1) (fun (_ : Unit) (_ : State) => True) (va_A [(mo, .inr (6, [.int 0, .ref m1, .ref m2, .int 0, .int 0, .ref m5, .ref m6, .ref m7, .ref m8, .int 0, .ref m10, .ref m11, .ref m12, .ref m13, .ref m14, .int 0, .int 0, .int 0, .ref m18, .int 0, .int 0, .int 0, .int 0, .int 0, .int 0, .int 0, .int 0, .int 0, .int 0, .int 0, .int 0, .int 0, .int 0, .int 0, .ref m34, .ref m35, .ref m36, .ref m37, .int 0]))] sz)) 0 0 (va_A [(mo, .inr (6, [.int 0, .ref m1, .ref m2, .int 0, .int 0, .ref m5, .ref m6, .ref m7, .ref m8, .int 0, .ref m10, .ref m11, .ref m12, .ref m13, .ref m14, .int 0, .int 0, .int 0, .ref m18, .int 0, .int 0, .int 0, .int 0, .int 0, .int 0, .int 0, .int 0, .int 0, .int 0, .int 0, .int 0, .int 0, .int 0, .int 0, .ref m34, .ref m35, .ref m36, .ref m37, .int 0]))] sz) := by
  refine Met.ofW (cc := cX8_clear) (maxL := 1) (ret := (some .boolean)) (by decide) rfl ?_
  intro p e s m args below meth c s₁ B hml hv
  obtain ⟨rfl, hsz, hP, hK, hD0⟩ := hv
  have hx := B.exec
  have hb := B.bytes
  have hr := B.returns
  have hts := atoms_spec (ws := wsX8_clear) B.pre
  have hown : s.vm.findClass RX8 = some m.cls := findClass_of_methodNamed B.named
  have hlocks := B.notSynchronized
  subst hsz
  have hD := hD0.self (sz := s.heap.size)
  generalize hAe : va_A [(mo, .inr (6, [.int 0, .ref m1, .ref m2, .int 0, .int 0, .ref m5, .ref m6, .ref m7, .ref m8, .int 0, .ref m10, .ref m11, .ref m12, .ref m13, .ref m14, .int 0, .int 0, .int 0, .ref m18, .int 0, .int 0, .int 0, .int 0, .int 0, .int 0, .int 0, .int 0, .int 0, .int 0, .int 0, .int 0, .int 0, .int 0, .int 0, .ref m34, .ref m35, .ref m36, .ref m37, .int 0]))] s.heap.size = A at hD ⊢
  have hA : ∀ q : Nat, s.heap.size ≤ q → A q := fun q h => by rw [← hAe]; exact Or.inr h
  have hS : va_S A s.heap s.heap [] := va_S.rf
  have hP : va_P (dC, dI) vwCl [(mo, .inr (6, [.int 0, .ref m1, .ref m2, .int 0, .int 0, .ref m5, .ref m6, .ref m7, .ref m8, .int 0, .ref m10, .ref m11, .ref m12, .ref m13, .ref m14, .int 0, .int 0, .int 0, .ref m18, .int 0, .int 0, .int 0, .int 0, .int 0, .int 0, .int 0, .int 0, .int 0, .int 0, .int 0, .int 0, .int 0, .int 0, .int 0, .ref m34, .ref m35, .ref m36, .ref m37, .int 0]))] s.heap := hP
  have hl := lv_entry ([.ref mo]) (n := 1) (Nat.le_of_ble_eq_true rfl)
  rw [lg_entry_eq]
  generalize (lg_sl ([.ref mo]) ++ List.replicate (1 - (lg_sl ([.ref mo])).length) Slot.unset).toArray = ls at hl ⊢
  have hl : lv_has ls 1 [(0, .ref mo)] := hl
  have iX8 : ∀ w ∈ wsX80, w ∈ wsX8_clear := by decide +kernel
  refine lv_aload_n hx hb dX8_clear_0 rfl (lv_at hl 0 rfl) ?_
  refine lv_iconst (v := 0) hx hb dX8_clear_1 (by decide) ?_
  refine va_put (D := (dC, dI)) (ci := 6) (v := .int 0) (ty := .int) (C := RX8) (T := TX8) (N := 39) hx hb hts iX8 tyX8 tyX8_ok nmX8 hown hK hP hD hS 0 rfl rfl 0 (by decide) (hts (.fieldLink RX8 7 "BatchTransferModel" "thrownCode" "I") (by decide +kernel)) (fun _ h9 => h9) rfl (by decide +kernel) rfl rfl (Nat.le_of_ble_eq_true rfl) dX8_clear_2 (fun H locs hP hD hS => ?_)
  have hP : va_P (dC, dI) vwCl [(mo, .inr (6, [.int 0, .ref m1, .ref m2, .int 0, .int 0, .ref m5, .ref m6, .ref m7, .ref m8, .int 0, .ref m10, .ref m11, .ref m12, .ref m13, .ref m14, .int 0, .int 0, .int 0, .ref m18, .int 0, .int 0, .int 0, .int 0, .int 0, .int 0, .int 0, .int 0, .int 0, .int 0, .int 0, .int 0, .int 0, .int 0, .int 0, .ref m34, .ref m35, .ref m36, .ref m37, .int 0]))] H := hP
  have hD : va_D A [(mo, .inr (6, [.int 0, .ref m1, .ref m2, .int 0, .int 0, .ref m5, .ref m6, .ref m7, .ref m8, .int 0, .ref m10, .ref m11, .ref m12, .ref m13, .ref m14, .int 0, .int 0, .int 0, .ref m18, .int 0, .int 0, .int 0, .int 0, .int 0, .int 0, .int 0, .int 0, .int 0, .int 0, .int 0, .int 0, .int 0, .int 0, .int 0, .ref m34, .ref m35, .ref m36, .ref m37, .int 0]))] := hD
  refine lv_aload_n hx hb dX8_clear_5 rfl (lv_at hl 0 rfl) ?_
  refine va_get (D := (dC, dI)) (ci := 6) (v := .int 0) (C := RX8) (T := TX8) (N := 39) hx hb hts iX8 hown hK hP 0 rfl rfl 15 (by decide) (hts (.fieldLink RX8 57 "BatchTransferModel" "on" "Z") (by decide +kernel)) (fun _ h9 => h9) rfl dX8_clear_6 ?_
  refine lv_if_eq (tgt := 14) hx hb dX8_clear_9 (by decide) (fun c_1 => ?_) (fun c_1 => absurd (by decide) c_1)
  refine lv_aload_n hx hb dX8_clear_14 rfl (lv_at hl 0 rfl) ?_
  refine lv_iconst (v := 0) hx hb dX8_clear_15 (by decide) ?_
  refine va_put (D := (dC, dI)) (ci := 6) (v := .int 0) (ty := .int) (C := RX8) (T := TX8) (N := 39) hx hb hts iX8 tyX8 tyX8_ok nmX8 hown hK hP hD hS 0 rfl rfl 4 (by decide) (hts (.fieldLink RX8 24 "BatchTransferModel" "files" "I") (by decide +kernel)) (fun _ h9 => h9) rfl (by decide +kernel) rfl rfl (Nat.le_of_ble_eq_true rfl) dX8_clear_16 (fun H locs hP hD hS => ?_)
  have hP : va_P (dC, dI) vwCl [(mo, .inr (6, [.int 0, .ref m1, .ref m2, .int 0, .int 0, .ref m5, .ref m6, .ref m7, .ref m8, .int 0, .ref m10, .ref m11, .ref m12, .ref m13, .ref m14, .int 0, .int 0, .int 0, .ref m18, .int 0, .int 0, .int 0, .int 0, .int 0, .int 0, .int 0, .int 0, .int 0, .int 0, .int 0, .int 0, .int 0, .int 0, .int 0, .ref m34, .ref m35, .ref m36, .ref m37, .int 0]))] H := hP
  have hD : va_D A [(mo, .inr (6, [.int 0, .ref m1, .ref m2, .int 0, .int 0, .ref m5, .ref m6, .ref m7, .ref m8, .int 0, .ref m10, .ref m11, .ref m12, .ref m13, .ref m14, .int 0, .int 0, .int 0, .ref m18, .int 0, .int 0, .int 0, .int 0, .int 0, .int 0, .int 0, .int 0, .int 0, .int 0, .int 0, .int 0, .int 0, .int 0, .int 0, .ref m34, .ref m35, .ref m36, .ref m37, .int 0]))] := hD
  refine lv_iconst (v := 1) hx hb dX8_clear_19 (by decide) ?_
  exact W.zret (v := 1) hx hb hr rfl (fun t ht hW => ⟨⟨1, (), rfl, rfl, trivial⟩, hS.F ht⟩) hS.2.2 dX8_clear_20

set_option maxHeartbeats 4000000 in
set_option maxRecDepth 100000 in
theorem m_begin (l : Launch) (dC : Nat → ClassId) (dI : Nat → Nat → Nat) (mo m1 m2 m5 m6 m7 m8 m10 m11 m12 m13 m14 m18 m34 m35 m36 m37 : Nat) (n0 : Int32) (sz : Nat) : Met l yX8_begin wsX8_begin ({ frames := 0, cells := 0, slots := 0, locals := 0 }) (va_Pc [.ref mo, .int n0] (fun U => U.heap.size = sz ∧ va_P (dC, dI) vwCl [(mo, .inr (6, [.int 0, .ref m1, .ref m2, .int 0, .int 0, .ref m5, .ref m6, .ref m7, .ref m8, .int 0, .ref m10, .ref m11, .ref m12, .ref m13, .ref m14, .int 0, .int 0, .int 0, .ref m18, .int 0, .int 0, .int 0, .int 0, .int 0, .int 0, .int 0, .int 0, .int 0, .int 0, .int 0, .int 0, .int 0, .int 0, .int 0, .ref m34, .ref m35, .ref m36, .ref m37, .int 0]))] U.heap ∧ va_K (dC, dI) vwCl [] U ∧ va_D (fun _ => True) [(mo, .inr (6, [.int 0, .ref m1, .ref m2, .int 0, .int 0, .ref m5, .ref m6, .ref m7, .ref m8, .int 0, .ref m10, .ref m11, .ref m12, .ref m13, .ref m14, .int 0, .int 0, .int 0, .ref m18, .int 0, .int 0, .int 0, .int 0, .int 0, .int 0, .int 0, .int 0, .int 0, .int 0, .int 0, .int 0, .int 0, .int 0, .int 0, .ref m34, .ref m35, .ref m36, .ref m37, .int 0]))])) (va_Qi (fun (r : Int32) (_ : Unit) => r = 0) (fun (_ : Unit) (_ : State) => True) (va_A [(mo, .inr (6, [.int 0, .ref m1, .ref m2, .int 0, .int 0, .ref m5, .ref m6, .ref m7, .ref m8, .int 0, .ref m10, .ref m11, .ref m12, .ref m13, .ref m14, .int 0, .int 0, .int 0, .ref m18, .int 0, .int 0, .int 0, .int 0, .int 0, .int 0, .int 0, .int 0, .int 0, .int 0, .int 0, .int 0, .int 0, .int 0, .int 0, .ref m34, .ref m35, .ref m36, .ref m37, .int 0]))] sz)) 0 0 (va_A [(mo, .inr (6, [.int 0, .ref m1, .ref m2, .int 0, .int 0, .ref m5, .ref m6, .ref m7, .ref m8, .int 0, .ref m10, .ref m11, .ref m12, .ref m13, .ref m14, .int 0, .int 0, .int 0, .ref m18, .int 0, .int 0, .int 0, .int 0, .int 0, .int 0, .int 0, .int 0, .int 0, .int 0, .int 0, .int 0, .int 0, .int 0, .int 0, .ref m34, .ref m35, .ref m36, .ref m37, .int 0]))] sz) := by
  refine Met.ofW (cc := cX8_begin) (maxL := 2) (ret := (some .boolean)) (by decide) rfl ?_
  intro p e s m args below meth c s₁ B hml hv
  obtain ⟨rfl, hsz, hP, hK, hD0⟩ := hv
  have hx := B.exec
  have hb := B.bytes
  have hr := B.returns
  have hts := atoms_spec (ws := wsX8_begin) B.pre
  have hown : s.vm.findClass RX8 = some m.cls := findClass_of_methodNamed B.named
  have hlocks := B.notSynchronized
  subst hsz
  have hD := hD0.self (sz := s.heap.size)
  generalize hAe : va_A [(mo, .inr (6, [.int 0, .ref m1, .ref m2, .int 0, .int 0, .ref m5, .ref m6, .ref m7, .ref m8, .int 0, .ref m10, .ref m11, .ref m12, .ref m13, .ref m14, .int 0, .int 0, .int 0, .ref m18, .int 0, .int 0, .int 0, .int 0, .int 0, .int 0, .int 0, .int 0, .int 0, .int 0, .int 0, .int 0, .int 0, .int 0, .int 0, .ref m34, .ref m35, .ref m36, .ref m37, .int 0]))] s.heap.size = A at hD ⊢
  have hA : ∀ q : Nat, s.heap.size ≤ q → A q := fun q h => by rw [← hAe]; exact Or.inr h
  have hS : va_S A s.heap s.heap [] := va_S.rf
  have hP : va_P (dC, dI) vwCl [(mo, .inr (6, [.int 0, .ref m1, .ref m2, .int 0, .int 0, .ref m5, .ref m6, .ref m7, .ref m8, .int 0, .ref m10, .ref m11, .ref m12, .ref m13, .ref m14, .int 0, .int 0, .int 0, .ref m18, .int 0, .int 0, .int 0, .int 0, .int 0, .int 0, .int 0, .int 0, .int 0, .int 0, .int 0, .int 0, .int 0, .int 0, .int 0, .ref m34, .ref m35, .ref m36, .ref m37, .int 0]))] s.heap := hP
  have hl := lv_entry ([.ref mo, .int n0]) (n := 2) (Nat.le_of_ble_eq_true rfl)
  rw [lg_entry_eq]
  generalize (lg_sl ([.ref mo, .int n0]) ++ List.replicate (2 - (lg_sl ([.ref mo, .int n0])).length) Slot.unset).toArray = ls at hl ⊢
  have hl : lv_has ls 2 [(0, .ref mo), (1, .int n0)] := hl
  have iX8 : ∀ w ∈ wsX80, w ∈ wsX8_begin := by decide +kernel
  refine lv_aload_n hx hb dX8_begin_0 rfl (lv_at hl 0 rfl) ?_
  refine lv_iconst (v := 0) hx hb dX8_begin_1 (by decide) ?_
  refine va_put (D := (dC, dI)) (ci := 6) (v := .int 0) (ty := .int) (C := RX8) (T := TX8) (N := 39) hx hb hts iX8 tyX8 tyX8_ok nmX8 hown hK hP hD hS 0 rfl rfl 0 (by decide) (hts (.fieldLink RX8 7 "BatchTransferModel" "thrownCode" "I") (by decide +kernel)) (fun _ h9 => h9) rfl (by decide +kernel) rfl rfl (Nat.le_of_ble_eq_true rfl) dX8_begin_2 (fun H locs hP hD hS => ?_)
  have hP : va_P (dC, dI) vwCl [(mo, .inr (6, [.int 0, .ref m1, .ref m2, .int 0, .int 0, .ref m5, .ref m6, .ref m7, .ref m8, .int 0, .ref m10, .ref m11, .ref m12, .ref m13, .ref m14, .int 0, .int 0, .int 0, .ref m18, .int 0, .int 0, .int 0, .int 0, .int 0, .int 0, .int 0, .int 0, .int 0, .int 0, .int 0, .int 0, .int 0, .int 0, .int 0, .ref m34, .ref m35, .ref m36, .ref m37, .int 0]))] H := hP
  have hD : va_D A [(mo, .inr (6, [.int 0, .ref m1, .ref m2, .int 0, .int 0, .ref m5, .ref m6, .ref m7, .ref m8, .int 0, .ref m10, .ref m11, .ref m12, .ref m13, .ref m14, .int 0, .int 0, .int 0, .ref m18, .int 0, .int 0, .int 0, .int 0, .int 0, .int 0, .int 0, .int 0, .int 0, .int 0, .int 0, .int 0, .int 0, .int 0, .int 0, .ref m34, .ref m35, .ref m36, .ref m37, .int 0]))] := hD
  refine lv_aload_n hx hb dX8_begin_5 rfl (lv_at hl 0 rfl) ?_
  refine va_get (D := (dC, dI)) (ci := 6) (v := .int 0) (C := RX8) (T := TX8) (N := 39) hx hb hts iX8 hown hK hP 0 rfl rfl 4 (by decide) (hts (.fieldLink RX8 24 "BatchTransferModel" "files" "I") (by decide +kernel)) (fun _ h9 => h9) rfl dX8_begin_6 ?_
  refine lv_if_eq (tgt := 21) hx hb dX8_begin_9 (by decide) (fun c_1 => ?_) (fun c_1 => absurd (by decide) c_1)
  refine lv_iconst (v := 0) hx hb dX8_begin_21 (by decide) ?_
  exact W.zret (v := 0) hx hb hr rfl (fun t ht hW => ⟨⟨0, (), rfl, rfl, trivial⟩, hS.F ht⟩) hS.2.2 dX8_begin_22

set_option maxHeartbeats 4000000 in
set_option maxRecDepth 100000 in
theorem m_spoil (l : Launch) (dC : Nat → ClassId) (dI : Nat → Nat → Nat) (mo m1 m2 m5 m6 m7 m8 m10 m11 m12 m13 m14 m18 m34 m35 m36 m37 : Nat) (n0 n1 : Int32) (sz : Nat) : Met l yX8_spoil wsX8_spoil ({ frames := 0, cells := 0, slots := 0, locals := 0 }) (va_Pc [.ref mo, .int n0, .int n1] (fun U => U.heap.size = sz ∧ va_P (dC, dI) vwCl [(mo, .inr (6, [.int 0, .ref m1, .ref m2, .int 0, .int 0, .ref m5, .ref m6, .ref m7, .ref m8, .int 0, .ref m10, .ref m11, .ref m12, .ref m13, .ref m14, .int 0, .int 0, .int 0, .ref m18, .int 0, .int 0, .int 0, .int 0, .int 0, .int 0, .int 0, .int 0, .int 0, .int 0, .int 0, .int 0, .int 0, .int 0, .int 0, .ref m34, .ref m35, .ref m36, .ref m37, .int 0]))] U.heap ∧ va_K (dC, dI) vwCl [] U ∧ va_D (fun _ => True) [(mo, .inr (6, [.int 0, .ref m1, .ref m2, .int 0, .int 0, .ref m5, .ref m6, .ref m7, .ref m8, .int 0, .ref m10, .ref m11, .ref m12, .ref m13, .ref m14, .int 0, .int 0, .int 0, .ref m18, .int 0, .int 0, .int 0, .int 0, .int 0, .int 0, .int 0, .int 0, .int 0, .int 0, .int 0, .int 0, .int 0, .int 0, .int 0, .ref m34, .ref m35, .ref m36, .ref m37, .int 0]))])) (va_Qv (fun (_ : Unit) => True) (fun (_ : Unit) (_ : State) => True) (va_A [(mo, .inr (6, [.int 0, .ref m1, .ref m2, .int 0, .int 0, .ref m5, .ref m6, .ref m7, .ref m8, .int 0, .ref m10, .ref m11, .ref m12, .ref m13, .ref m14, .int 0, .int 0, .int 0, .ref m18, .int 0, .int 0, .int 0, .int 0, .int 0, .int 0, .int 0, .int 0, .int 0, .int 0, .int 0, .int 0, .int 0, .int 0, .int 0, .ref m34, .ref m35, .ref m36, .ref m37, .int 0]))] sz)) 0 0 (va_A [(mo, .inr (6, [.int 0, .ref m1, .ref m2, .int 0, .int 0, .ref m5, .ref m6, .ref m7, .ref m8, .int 0, .ref m10, .ref m11, .ref m12, .ref m13, .ref m14, .int 0, .int 0, .int 0, .ref m18, .int 0, .int 0, .int 0, .int 0, .int 0, .int 0, .int 0, .int 0, .int 0, .int 0, .int 0, .int 0, .int 0, .int 0, .int 0, .ref m34, .ref m35, .ref m36, .ref m37, .int 0]))] sz) := by
  refine Met.ofW (cc := cX8_spoil) (maxL := 3) (ret := none) (by decide) rfl ?_
  intro p e s m args below meth c s₁ B hml hv
  obtain ⟨rfl, hsz, hP, hK, hD0⟩ := hv
  have hx := B.exec
  have hb := B.bytes
  have hr := B.returns
  have hts := atoms_spec (ws := wsX8_spoil) B.pre
  have hown : s.vm.findClass RX8 = some m.cls := findClass_of_methodNamed B.named
  have hlocks := B.notSynchronized
  subst hsz
  have hD := hD0.self (sz := s.heap.size)
  generalize hAe : va_A [(mo, .inr (6, [.int 0, .ref m1, .ref m2, .int 0, .int 0, .ref m5, .ref m6, .ref m7, .ref m8, .int 0, .ref m10, .ref m11, .ref m12, .ref m13, .ref m14, .int 0, .int 0, .int 0, .ref m18, .int 0, .int 0, .int 0, .int 0, .int 0, .int 0, .int 0, .int 0, .int 0, .int 0, .int 0, .int 0, .int 0, .int 0, .int 0, .ref m34, .ref m35, .ref m36, .ref m37, .int 0]))] s.heap.size = A at hD ⊢
  have hA : ∀ q : Nat, s.heap.size ≤ q → A q := fun q h => by rw [← hAe]; exact Or.inr h
  have hS : va_S A s.heap s.heap [] := va_S.rf
  have hP : va_P (dC, dI) vwCl [(mo, .inr (6, [.int 0, .ref m1, .ref m2, .int 0, .int 0, .ref m5, .ref m6, .ref m7, .ref m8, .int 0, .ref m10, .ref m11, .ref m12, .ref m13, .ref m14, .int 0, .int 0, .int 0, .ref m18, .int 0, .int 0, .int 0, .int 0, .int 0, .int 0, .int 0, .int 0, .int 0, .int 0, .int 0, .int 0, .int 0, .int 0, .int 0, .ref m34, .ref m35, .ref m36, .ref m37, .int 0]))] s.heap := hP
  have hl := lv_entry ([.ref mo, .int n0, .int n1]) (n := 3) (Nat.le_of_ble_eq_true rfl)
  rw [lg_entry_eq]
  generalize (lg_sl ([.ref mo, .int n0, .int n1]) ++ List.replicate (3 - (lg_sl ([.ref mo, .int n0, .int n1])).length) Slot.unset).toArray = ls at hl ⊢
  have hl : lv_has ls 3 [(0, .ref mo), (1, .int n0), (2, .int n1)] := hl
  have iX8 : ∀ w ∈ wsX80, w ∈ wsX8_spoil := by decide +kernel
  refine lv_aload_n hx hb dX8_spoil_0 rfl (lv_at hl 0 rfl) ?_
  refine lv_iconst (v := 0) hx hb dX8_spoil_1 (by decide) ?_
  refine va_put (D := (dC, dI)) (ci := 6) (v := .int 0) (ty := .int) (C := RX8) (T := TX8) (N := 39) hx hb hts iX8 tyX8 tyX8_ok nmX8 hown hK hP hD hS 0 rfl rfl 0 (by decide) (hts (.fieldLink RX8 7 "BatchTransferModel" "thrownCode" "I") (by decide +kernel)) (fun _ h9 => h9) rfl (by decide +kernel) rfl rfl (Nat.le_of_ble_eq_true rfl) dX8_spoil_2 (fun H locs hP hD hS => ?_)
  have hP : va_P (dC, dI) vwCl [(mo, .inr (6, [.int 0, .ref m1, .ref m2, .int 0, .int 0, .ref m5, .ref m6, .ref m7, .ref m8, .int 0, .ref m10, .ref m11, .ref m12, .ref m13, .ref m14, .int 0, .int 0, .int 0, .ref m18, .int 0, .int 0, .int 0, .int 0, .int 0, .int 0, .int 0, .int 0, .int 0, .int 0, .int 0, .int 0, .int 0, .int 0, .int 0, .ref m34, .ref m35, .ref m36, .ref m37, .int 0]))] H := hP
  have hD : va_D A [(mo, .inr (6, [.int 0, .ref m1, .ref m2, .int 0, .int 0, .ref m5, .ref m6, .ref m7, .ref m8, .int 0, .ref m10, .ref m11, .ref m12, .ref m13, .ref m14, .int 0, .int 0, .int 0, .ref m18, .int 0, .int 0, .int 0, .int 0, .int 0, .int 0, .int 0, .int 0, .int 0, .int 0, .int 0, .int 0, .int 0, .int 0, .int 0, .ref m34, .ref m35, .ref m36, .ref m37, .int 0]))] := hD
  refine lv_aload_n hx hb dX8_spoil_5 rfl (lv_at hl 0 rfl) ?_
  refine lv_iconst (v := 1) hx hb dX8_spoil_6 (by decide) ?_
  refine va_put (D := (dC, dI)) (ci := 6) (v := .int 1) (ty := .boolean) (C := RX8) (T := TX8) (N := 39) hx hb hts iX8 tyX8 tyX8_ok nmX8 hown hK hP hD hS 0 rfl rfl 21 (by decide) (hts (.fieldLink RX8 76 "BatchTransferModel" "told" "Z") (by decide +kernel)) (fun _ h9 => h9) rfl (by decide +kernel) rfl rfl (Nat.le_of_ble_eq_true rfl) dX8_spoil_7 (fun H locs hP hD hS => ?_)
  have hP : va_P (dC, dI) vwCl [(mo, .inr (6, [.int 0, .ref m1, .ref m2, .int 0, .int 0, .ref m5, .ref m6, .ref m7, .ref m8, .int 0, .ref m10, .ref m11, .ref m12, .ref m13, .ref m14, .int 0, .int 0, .int 0, .ref m18, .int 0, .int 0, .int 1, .int 0, .int 0, .int 0, .int 0, .int 0, .int 0, .int 0, .int 0, .int 0, .int 0, .int 0, .int 0, .ref m34, .ref m35, .ref m36, .ref m37, .int 0]))] H := hP
  have hD : va_D A [(mo, .inr (6, [.int 0, .ref m1, .ref m2, .int 0, .int 0, .ref m5, .ref m6, .ref m7, .ref m8, .int 0, .ref m10, .ref m11, .ref m12, .ref m13, .ref m14, .int 0, .int 0, .int 0, .ref m18, .int 0, .int 0, .int 1, .int 0, .int 0, .int 0, .int 0, .int 0, .int 0, .int 0, .int 0, .int 0, .int 0, .int 0, .int 0, .ref m34, .ref m35, .ref m36, .ref m37, .int 0]))] := hD
  refine lv_aload_n hx hb dX8_spoil_10 rfl (lv_at hl 0 rfl) ?_
  refine lv_iload_n hx hb dX8_spoil_11 rfl (lv_at hl 1 rfl) ?_
  refine va_put (D := (dC, dI)) (ci := 6) (v := .int n0) (ty := .int) (C := RX8) (T := TX8) (N := 39) hx hb hts iX8 tyX8 tyX8_ok nmX8 hown hK hP hD hS 0 rfl rfl 22 (by decide) (hts (.fieldLink RX8 79 "BatchTransferModel" "toldAt" "I") (by decide +kernel)) (fun _ h9 => h9) rfl (by decide +kernel) rfl rfl (Nat.le_of_ble_eq_true rfl) dX8_spoil_12 (fun H locs hP hD hS => ?_)
  have hP : va_P (dC, dI) vwCl [(mo, .inr (6, [.int 0, .ref m1, .ref m2, .int 0, .int 0, .ref m5, .ref m6, .ref m7, .ref m8, .int 0, .ref m10, .ref m11, .ref m12, .ref m13, .ref m14, .int 0, .int 0, .int 0, .ref m18, .int 0, .int 0, .int 1, .int n0, .int 0, .int 0, .int 0, .int 0, .int 0, .int 0, .int 0, .int 0, .int 0, .int 0, .int 0, .ref m34, .ref m35, .ref m36, .ref m37, .int 0]))] H := hP
  have hD : va_D A [(mo, .inr (6, [.int 0, .ref m1, .ref m2, .int 0, .int 0, .ref m5, .ref m6, .ref m7, .ref m8, .int 0, .ref m10, .ref m11, .ref m12, .ref m13, .ref m14, .int 0, .int 0, .int 0, .ref m18, .int 0, .int 0, .int 1, .int n0, .int 0, .int 0, .int 0, .int 0, .int 0, .int 0, .int 0, .int 0, .int 0, .int 0, .int 0, .ref m34, .ref m35, .ref m36, .ref m37, .int 0]))] := hD
  refine lv_aload_n hx hb dX8_spoil_15 rfl (lv_at hl 0 rfl) ?_
  refine lv_iload_n hx hb dX8_spoil_16 rfl (lv_at hl 2 rfl) ?_
  refine lv_sipush (v := 255) hx hb dX8_spoil_17 (by decide) ?_
  refine lv_iand hx hb dX8_spoil_20 ?_
  refine lv_topi (fun x_1 ex_1 => ?_)
  refine va_put (D := (dC, dI)) (ci := 6) (v := .int x_1) (ty := .int) (C := RX8) (T := TX8) (N := 39) hx hb hts iX8 tyX8 tyX8_ok nmX8 hown hK hP hD hS 0 rfl rfl 23 (by decide) (hts (.fieldLink RX8 82 "BatchTransferModel" "toldMask" "I") (by decide +kernel)) (fun _ h9 => h9) rfl (by decide +kernel) rfl rfl (Nat.le_of_ble_eq_true rfl) dX8_spoil_21 (fun H locs hP hD hS => ?_)
  have hP : va_P (dC, dI) vwCl [(mo, .inr (6, [.int 0, .ref m1, .ref m2, .int 0, .int 0, .ref m5, .ref m6, .ref m7, .ref m8, .int 0, .ref m10, .ref m11, .ref m12, .ref m13, .ref m14, .int 0, .int 0, .int 0, .ref m18, .int 0, .int 0, .int 1, .int n0, .int x_1, .int 0, .int 0, .int 0, .int 0, .int 0, .int 0, .int 0, .int 0, .int 0, .int 0, .ref m34, .ref m35, .ref m36, .ref m37, .int 0]))] H := hP
  have hD : va_D A [(mo, .inr (6, [.int 0, .ref m1, .ref m2, .int 0, .int 0, .ref m5, .ref m6, .ref m7, .ref m8, .int 0, .ref m10, .ref m11, .ref m12, .ref m13, .ref m14, .int 0, .int 0, .int 0, .ref m18, .int 0, .int 0, .int 1, .int n0, .int x_1, .int 0, .int 0, .int 0, .int 0, .int 0, .int 0, .int 0, .int 0, .int 0, .int 0, .ref m34, .ref m35, .ref m36, .ref m37, .int 0]))] := hD
  exact W.vret hx hb hr (fun t ht hW => ⟨⟨(), rfl, trivial, trivial⟩, hS.F ht⟩) hS.2.2 dX8_spoil_24

set_option maxHeartbeats 4000000 in
set_option maxRecDepth 100000 in
theorem m_step (l : Launch) (dC : Nat → ClassId) (dI : Nat → Nat → Nat) (mo m1 m2 m5 m6 m7 m8 m10 m11 m12 m13 m14 m18 m34 m35 m36 m37 : Nat)  (sz : Nat) : Met l yX8_step wsX8_step ({ frames := 0, cells := 0, slots := 0, locals := 0 }) (va_Pc [.ref mo] (fun U => U.heap.size = sz ∧ va_P (dC, dI) vwCl [(mo, .inr (6, [.int 0, .ref m1, .ref m2, .int 0, .int 0, .ref m5, .ref m6, .ref m7, .ref m8, .int 0, .ref m10, .ref m11, .ref m12, .ref m13, .ref m14, .int 0, .int 0, .int 0, .ref m18, .int 0, .int 0, .int 0, .int 0, .int 0, .int 0, .int 0, .int 0, .int 0, .int 0, .int 0, .int 0, .int 0, .int 0, .int 0, .ref m34, .ref m35, .ref m36, .ref m37, .int 0]))] U.heap ∧ va_K (dC, dI) vwCl [] U ∧ va_D (fun _ => True) [(mo, .inr (6, [.int 0, .ref m1, .ref m2, .int 0, .int 0, .ref m5, .ref m6, .ref m7, .ref m8, .int 0, .ref m10, .ref m11, .ref m12, .ref m13, .ref m14, .int 0, .int 0, .int 0, .ref m18, .int 0, .int 0, .int 0, .int 0, .int 0, .int 0, .int 0, .int 0, .int 0, .int 0, .int 0, .int 0, .int 0, .int 0, .int 0, .ref m34, .ref m35, .ref m36, .ref m37, .int 0]))])) (va_Qi (fun (r : Int32) (_ : Unit) => r = -1) (fun (_ : Unit) (_ : State) => True) (va_A [(mo, .inr (6, [.int 0, .ref m1, .ref m2, .int 0, .int 0, .ref m5, .ref m6, .ref m7, .ref m8, .int 0, .ref m10, .ref m11, .ref m12, .ref m13, .ref m14, .int 0, .int 0, .int 0, .ref m18, .int 0, .int 0, .int 0, .int 0, .int 0, .int 0, .int 0, .int 0, .int 0, .int 0, .int 0, .int 0, .int 0, .int 0, .int 0, .ref m34, .ref m35, .ref m36, .ref m37, .int 0]))] sz)) 0 0 (va_A [(mo, .inr (6, [.int 0, .ref m1, .ref m2, .int 0, .int 0, .ref m5, .ref m6, .ref m7, .ref m8, .int 0, .ref m10, .ref m11, .ref m12, .ref m13, .ref m14, .int 0, .int 0, .int 0, .ref m18, .int 0, .int 0, .int 0, .int 0, .int 0, .int 0, .int 0, .int 0, .int 0, .int 0, .int 0, .int 0, .int 0, .int 0, .int 0, .ref m34, .ref m35, .ref m36, .ref m37, .int 0]))] sz) := by
  refine Met.ofW (cc := cX8_step) (maxL := 3) (ret := (some .int)) (by decide) rfl ?_
  intro p e s m args below meth c s₁ B hml hv
  obtain ⟨rfl, hsz, hP, hK, hD0⟩ := hv
  have hx := B.exec
  have hb := B.bytes
  have hr := B.returns
  have hts := atoms_spec (ws := wsX8_step) B.pre
  have hown : s.vm.findClass RX8 = some m.cls := findClass_of_methodNamed B.named
  have hlocks := B.notSynchronized
  subst hsz
  have hD := hD0.self (sz := s.heap.size)
  generalize hAe : va_A [(mo, .inr (6, [.int 0, .ref m1, .ref m2, .int 0, .int 0, .ref m5, .ref m6, .ref m7, .ref m8, .int 0, .ref m10, .ref m11, .ref m12, .ref m13, .ref m14, .int 0, .int 0, .int 0, .ref m18, .int 0, .int 0, .int 0, .int 0, .int 0, .int 0, .int 0, .int 0, .int 0, .int 0, .int 0, .int 0, .int 0, .int 0, .int 0, .ref m34, .ref m35, .ref m36, .ref m37, .int 0]))] s.heap.size = A at hD ⊢
  have hA : ∀ q : Nat, s.heap.size ≤ q → A q := fun q h => by rw [← hAe]; exact Or.inr h
  have hS : va_S A s.heap s.heap [] := va_S.rf
  have hP : va_P (dC, dI) vwCl [(mo, .inr (6, [.int 0, .ref m1, .ref m2, .int 0, .int 0, .ref m5, .ref m6, .ref m7, .ref m8, .int 0, .ref m10, .ref m11, .ref m12, .ref m13, .ref m14, .int 0, .int 0, .int 0, .ref m18, .int 0, .int 0, .int 0, .int 0, .int 0, .int 0, .int 0, .int 0, .int 0, .int 0, .int 0, .int 0, .int 0, .int 0, .int 0, .ref m34, .ref m35, .ref m36, .ref m37, .int 0]))] s.heap := hP
  have hl := lv_entry ([.ref mo]) (n := 3) (Nat.le_of_ble_eq_true rfl)
  rw [lg_entry_eq]
  generalize (lg_sl ([.ref mo]) ++ List.replicate (3 - (lg_sl ([.ref mo])).length) Slot.unset).toArray = ls at hl ⊢
  have hl : lv_has ls 3 [(0, .ref mo)] := hl
  have iX8 : ∀ w ∈ wsX80, w ∈ wsX8_step := by decide +kernel
  refine lv_aload_n hx hb dX8_step_0 rfl (lv_at hl 0 rfl) ?_
  refine lv_iconst (v := 0) hx hb dX8_step_1 (by decide) ?_
  refine va_put (D := (dC, dI)) (ci := 6) (v := .int 0) (ty := .int) (C := RX8) (T := TX8) (N := 39) hx hb hts iX8 tyX8 tyX8_ok nmX8 hown hK hP hD hS 0 rfl rfl 0 (by decide) (hts (.fieldLink RX8 7 "BatchTransferModel" "thrownCode" "I") (by decide +kernel)) (fun _ h9 => h9) rfl (by decide +kernel) rfl rfl (Nat.le_of_ble_eq_true rfl) dX8_step_2 (fun H locs hP hD hS => ?_)
  have hP : va_P (dC, dI) vwCl [(mo, .inr (6, [.int 0, .ref m1, .ref m2, .int 0, .int 0, .ref m5, .ref m6, .ref m7, .ref m8, .int 0, .ref m10, .ref m11, .ref m12, .ref m13, .ref m14, .int 0, .int 0, .int 0, .ref m18, .int 0, .int 0, .int 0, .int 0, .int 0, .int 0, .int 0, .int 0, .int 0, .int 0, .int 0, .int 0, .int 0, .int 0, .int 0, .ref m34, .ref m35, .ref m36, .ref m37, .int 0]))] H := hP
  have hD : va_D A [(mo, .inr (6, [.int 0, .ref m1, .ref m2, .int 0, .int 0, .ref m5, .ref m6, .ref m7, .ref m8, .int 0, .ref m10, .ref m11, .ref m12, .ref m13, .ref m14, .int 0, .int 0, .int 0, .ref m18, .int 0, .int 0, .int 0, .int 0, .int 0, .int 0, .int 0, .int 0, .int 0, .int 0, .int 0, .int 0, .int 0, .int 0, .int 0, .ref m34, .ref m35, .ref m36, .ref m37, .int 0]))] := hD
  refine lv_aload_n hx hb dX8_step_5 rfl (lv_at hl 0 rfl) ?_
  refine va_get (D := (dC, dI)) (ci := 6) (v := .int 0) (C := RX8) (T := TX8) (N := 39) hx hb hts iX8 hown hK hP 0 rfl rfl 15 (by decide) (hts (.fieldLink RX8 57 "BatchTransferModel" "on" "Z") (by decide +kernel)) (fun _ h9 => h9) rfl dX8_step_6 ?_
  refine lv_if_ne (tgt := 14) hx hb dX8_step_9 (by decide) (fun c_1 => absurd (by decide) c_1) (fun c_1 => ?_)
  refine lv_iconst (v := (-1)) hx hb dX8_step_12 (by decide) ?_
  exact W.iret (v := (-1)) hx hb hr (fun t ht hW => ⟨⟨(-1), (), rfl, rfl, trivial⟩, hS.F ht⟩) hS.2.2 dX8_step_13

set_option maxHeartbeats 4000000 in
set_option maxRecDepth 100000 in
theorem m_line (l : Launch) (dC : Nat → ClassId) (dI : Nat → Nat → Nat) (mo m1 m2 m5 m6 m7 m8 m10 m11 m12 m13 m14 m18 m34 m35 m36 m37 : Nat)  (sz : Nat) : Met l yX8_line wsX8_line ({ frames := 0, cells := 0, slots := 0, locals := 0 }) (va_Pc [.ref mo] (fun U => U.heap.size = sz ∧ va_P (dC, dI) vwCl [(mo, .inr (6, [.int 0, .ref m1, .ref m2, .int 0, .int 0, .ref m5, .ref m6, .ref m7, .ref m8, .int 0, .ref m10, .ref m11, .ref m12, .ref m13, .ref m14, .int 0, .int 0, .int 0, .ref m18, .int 0, .int 0, .int 0, .int 0, .int 0, .int 0, .int 0, .int 0, .int 0, .int 0, .int 0, .int 0, .int 0, .int 0, .int 0, .ref m34, .ref m35, .ref m36, .ref m37, .int 0]))] U.heap ∧ va_K (dC, dI) vwCl [] U ∧ va_D (fun _ => True) [(mo, .inr (6, [.int 0, .ref m1, .ref m2, .int 0, .int 0, .ref m5, .ref m6, .ref m7, .ref m8, .int 0, .ref m10, .ref m11, .ref m12, .ref m13, .ref m14, .int 0, .int 0, .int 0, .ref m18, .int 0, .int 0, .int 0, .int 0, .int 0, .int 0, .int 0, .int 0, .int 0, .int 0, .int 0, .int 0, .int 0, .int 0, .int 0, .ref m34, .ref m35, .ref m36, .ref m37, .int 0]))])) (va_Qi (fun (r : Int32) (_ : Unit) => r = 0) (fun (_ : Unit) (_ : State) => True) (va_A [(mo, .inr (6, [.int 0, .ref m1, .ref m2, .int 0, .int 0, .ref m5, .ref m6, .ref m7, .ref m8, .int 0, .ref m10, .ref m11, .ref m12, .ref m13, .ref m14, .int 0, .int 0, .int 0, .ref m18, .int 0, .int 0, .int 0, .int 0, .int 0, .int 0, .int 0, .int 0, .int 0, .int 0, .int 0, .int 0, .int 0, .int 0, .int 0, .ref m34, .ref m35, .ref m36, .ref m37, .int 0]))] sz)) 0 0 (va_A [(mo, .inr (6, [.int 0, .ref m1, .ref m2, .int 0, .int 0, .ref m5, .ref m6, .ref m7, .ref m8, .int 0, .ref m10, .ref m11, .ref m12, .ref m13, .ref m14, .int 0, .int 0, .int 0, .ref m18, .int 0, .int 0, .int 0, .int 0, .int 0, .int 0, .int 0, .int 0, .int 0, .int 0, .int 0, .int 0, .int 0, .int 0, .int 0, .ref m34, .ref m35, .ref m36, .ref m37, .int 0]))] sz) := by
  refine Met.ofW (cc := cX8_line) (maxL := 1) (ret := (some .int)) (by decide) rfl ?_
  intro p e s m args below meth c s₁ B hml hv
  obtain ⟨rfl, hsz, hP, hK, hD0⟩ := hv
  have hx := B.exec
  have hb := B.bytes
  have hr := B.returns
  have hts := atoms_spec (ws := wsX8_line) B.pre
  have hown : s.vm.findClass RX8 = some m.cls := findClass_of_methodNamed B.named
  have hlocks := B.notSynchronized
  subst hsz
  have hD := hD0.self (sz := s.heap.size)
  generalize hAe : va_A [(mo, .inr (6, [.int 0, .ref m1, .ref m2, .int 0, .int 0, .ref m5, .ref m6, .ref m7, .ref m8, .int 0, .ref m10, .ref m11, .ref m12, .ref m13, .ref m14, .int 0, .int 0, .int 0, .ref m18, .int 0, .int 0, .int 0, .int 0, .int 0, .int 0, .int 0, .int 0, .int 0, .int 0, .int 0, .int 0, .int 0, .int 0, .int 0, .ref m34, .ref m35, .ref m36, .ref m37, .int 0]))] s.heap.size = A at hD ⊢
  have hA : ∀ q : Nat, s.heap.size ≤ q → A q := fun q h => by rw [← hAe]; exact Or.inr h
  have hS : va_S A s.heap s.heap [] := va_S.rf
  have hP : va_P (dC, dI) vwCl [(mo, .inr (6, [.int 0, .ref m1, .ref m2, .int 0, .int 0, .ref m5, .ref m6, .ref m7, .ref m8, .int 0, .ref m10, .ref m11, .ref m12, .ref m13, .ref m14, .int 0, .int 0, .int 0, .ref m18, .int 0, .int 0, .int 0, .int 0, .int 0, .int 0, .int 0, .int 0, .int 0, .int 0, .int 0, .int 0, .int 0, .int 0, .int 0, .ref m34, .ref m35, .ref m36, .ref m37, .int 0]))] s.heap := hP
  have hl := lv_entry ([.ref mo]) (n := 1) (Nat.le_of_ble_eq_true rfl)
  rw [lg_entry_eq]
  generalize (lg_sl ([.ref mo]) ++ List.replicate (1 - (lg_sl ([.ref mo])).length) Slot.unset).toArray = ls at hl ⊢
  have hl : lv_has ls 1 [(0, .ref mo)] := hl
  have iX8 : ∀ w ∈ wsX80, w ∈ wsX8_line := by decide +kernel
  refine lv_aload_n hx hb dX8_line_0 rfl (lv_at hl 0 rfl) ?_
  refine lv_iconst (v := 0) hx hb dX8_line_1 (by decide) ?_
  refine va_put (D := (dC, dI)) (ci := 6) (v := .int 0) (ty := .int) (C := RX8) (T := TX8) (N := 39) hx hb hts iX8 tyX8 tyX8_ok nmX8 hown hK hP hD hS 0 rfl rfl 0 (by decide) (hts (.fieldLink RX8 7 "BatchTransferModel" "thrownCode" "I") (by decide +kernel)) (fun _ h9 => h9) rfl (by decide +kernel) rfl rfl (Nat.le_of_ble_eq_true rfl) dX8_line_2 (fun H locs hP hD hS => ?_)
  have hP : va_P (dC, dI) vwCl [(mo, .inr (6, [.int 0, .ref m1, .ref m2, .int 0, .int 0, .ref m5, .ref m6, .ref m7, .ref m8, .int 0, .ref m10, .ref m11, .ref m12, .ref m13, .ref m14, .int 0, .int 0, .int 0, .ref m18, .int 0, .int 0, .int 0, .int 0, .int 0, .int 0, .int 0, .int 0, .int 0, .int 0, .int 0, .int 0, .int 0, .int 0, .int 0, .ref m34, .ref m35, .ref m36, .ref m37, .int 0]))] H := hP
  have hD : va_D A [(mo, .inr (6, [.int 0, .ref m1, .ref m2, .int 0, .int 0, .ref m5, .ref m6, .ref m7, .ref m8, .int 0, .ref m10, .ref m11, .ref m12, .ref m13, .ref m14, .int 0, .int 0, .int 0, .ref m18, .int 0, .int 0, .int 0, .int 0, .int 0, .int 0, .int 0, .int 0, .int 0, .int 0, .int 0, .int 0, .int 0, .int 0, .int 0, .ref m34, .ref m35, .ref m36, .ref m37, .int 0]))] := hD
  refine lv_aload_n hx hb dX8_line_5 rfl (lv_at hl 0 rfl) ?_
  refine va_get (D := (dC, dI)) (ci := 6) (v := .int 0) (C := RX8) (T := TX8) (N := 39) hx hb hts iX8 hown hK hP 0 rfl rfl 15 (by decide) (hts (.fieldLink RX8 57 "BatchTransferModel" "on" "Z") (by decide +kernel)) (fun _ h9 => h9) rfl dX8_line_6 ?_
  refine lv_if_eq (tgt := 19) hx hb dX8_line_9 (by decide) (fun c_1 => ?_) (fun c_1 => absurd (by decide) c_1)
  refine lv_iconst (v := 0) hx hb dX8_line_19 (by decide) ?_
  exact W.iret (v := 0) hx hb hr (fun t ht hW => ⟨⟨0, (), rfl, rfl, trivial⟩, hS.F ht⟩) hS.2.2 dX8_line_20

set_option maxHeartbeats 4000000 in
set_option maxRecDepth 100000 in
theorem m_state (l : Launch) (dC : Nat → ClassId) (dI : Nat → Nat → Nat) (mo m1 m2 m5 m6 m7 m8 m10 m11 m12 m13 m14 m18 m34 m35 m36 m37 : Nat) (n0 : Int32) (sz : Nat) : Met l yX8_state wsX8_state ({ frames := 0, cells := 0, slots := 0, locals := 0 }) (va_Pc [.ref mo, .int n0] (fun U => U.heap.size = sz ∧ va_P (dC, dI) vwCl [(mo, .inr (6, [.int 0, .ref m1, .ref m2, .int 0, .int 0, .ref m5, .ref m6, .ref m7, .ref m8, .int 0, .ref m10, .ref m11, .ref m12, .ref m13, .ref m14, .int 0, .int 0, .int 0, .ref m18, .int 0, .int 0, .int 0, .int 0, .int 0, .int 0, .int 0, .int 0, .int 0, .int 0, .int 0, .int 0, .int 0, .int 0, .int 0, .ref m34, .ref m35, .ref m36, .ref m37, .int 0]))] U.heap ∧ va_K (dC, dI) vwCl [] U ∧ va_D (fun _ => True) [(mo, .inr (6, [.int 0, .ref m1, .ref m2, .int 0, .int 0, .ref m5, .ref m6, .ref m7, .ref m8, .int 0, .ref m10, .ref m11, .ref m12, .ref m13, .ref m14, .int 0, .int 0, .int 0, .ref m18, .int 0, .int 0, .int 0, .int 0, .int 0, .int 0, .int 0, .int 0, .int 0, .int 0, .int 0, .int 0, .int 0, .int 0, .int 0, .ref m34, .ref m35, .ref m36, .ref m37, .int 0]))])) (va_Qi (fun (r : Int32) (_ : Unit) => r = -1) (fun (_ : Unit) (_ : State) => True) (va_A [(mo, .inr (6, [.int 0, .ref m1, .ref m2, .int 0, .int 0, .ref m5, .ref m6, .ref m7, .ref m8, .int 0, .ref m10, .ref m11, .ref m12, .ref m13, .ref m14, .int 0, .int 0, .int 0, .ref m18, .int 0, .int 0, .int 0, .int 0, .int 0, .int 0, .int 0, .int 0, .int 0, .int 0, .int 0, .int 0, .int 0, .int 0, .int 0, .ref m34, .ref m35, .ref m36, .ref m37, .int 0]))] sz)) 0 0 (va_A [(mo, .inr (6, [.int 0, .ref m1, .ref m2, .int 0, .int 0, .ref m5, .ref m6, .ref m7, .ref m8, .int 0, .ref m10, .ref m11, .ref m12, .ref m13, .ref m14, .int 0, .int 0, .int 0, .ref m18, .int 0, .int 0, .int 0, .int 0, .int 0, .int 0, .int 0, .int 0, .int 0, .int 0, .int 0, .int 0, .int 0, .int 0, .int 0, .ref m34, .ref m35, .ref m36, .ref m37, .int 0]))] sz) := by
  refine Met.ofW (cc := cX8_state) (maxL := 2) (ret := (some .int)) (by decide) rfl ?_
  intro p e s m args below meth c s₁ B hml hv
  obtain ⟨rfl, hsz, hP, hK, hD0⟩ := hv
  have hx := B.exec
  have hb := B.bytes
  have hr := B.returns
  have hts := atoms_spec (ws := wsX8_state) B.pre
  have hown : s.vm.findClass RX8 = some m.cls := findClass_of_methodNamed B.named
  have hlocks := B.notSynchronized
  subst hsz
  have hD := hD0.self (sz := s.heap.size)
  generalize hAe : va_A [(mo, .inr (6, [.int 0, .ref m1, .ref m2, .int 0, .int 0, .ref m5, .ref m6, .ref m7, .ref m8, .int 0, .ref m10, .ref m11, .ref m12, .ref m13, .ref m14, .int 0, .int 0, .int 0, .ref m18, .int 0, .int 0, .int 0, .int 0, .int 0, .int 0, .int 0, .int 0, .int 0, .int 0, .int 0, .int 0, .int 0, .int 0, .int 0, .ref m34, .ref m35, .ref m36, .ref m37, .int 0]))] s.heap.size = A at hD ⊢
  have hA : ∀ q : Nat, s.heap.size ≤ q → A q := fun q h => by rw [← hAe]; exact Or.inr h
  have hS : va_S A s.heap s.heap [] := va_S.rf
  have hP : va_P (dC, dI) vwCl [(mo, .inr (6, [.int 0, .ref m1, .ref m2, .int 0, .int 0, .ref m5, .ref m6, .ref m7, .ref m8, .int 0, .ref m10, .ref m11, .ref m12, .ref m13, .ref m14, .int 0, .int 0, .int 0, .ref m18, .int 0, .int 0, .int 0, .int 0, .int 0, .int 0, .int 0, .int 0, .int 0, .int 0, .int 0, .int 0, .int 0, .int 0, .int 0, .ref m34, .ref m35, .ref m36, .ref m37, .int 0]))] s.heap := hP
  have hl := lv_entry ([.ref mo, .int n0]) (n := 2) (Nat.le_of_ble_eq_true rfl)
  rw [lg_entry_eq]
  generalize (lg_sl ([.ref mo, .int n0]) ++ List.replicate (2 - (lg_sl ([.ref mo, .int n0])).length) Slot.unset).toArray = ls at hl ⊢
  have hl : lv_has ls 2 [(0, .ref mo), (1, .int n0)] := hl
  have iX8 : ∀ w ∈ wsX80, w ∈ wsX8_state := by decide +kernel
  refine lv_aload_n hx hb dX8_state_0 rfl (lv_at hl 0 rfl) ?_
  refine lv_iconst (v := 0) hx hb dX8_state_1 (by decide) ?_
  refine va_put (D := (dC, dI)) (ci := 6) (v := .int 0) (ty := .int) (C := RX8) (T := TX8) (N := 39) hx hb hts iX8 tyX8 tyX8_ok nmX8 hown hK hP hD hS 0 rfl rfl 0 (by decide) (hts (.fieldLink RX8 7 "BatchTransferModel" "thrownCode" "I") (by decide +kernel)) (fun _ h9 => h9) rfl (by decide +kernel) rfl rfl (Nat.le_of_ble_eq_true rfl) dX8_state_2 (fun H locs hP hD hS => ?_)
  have hP : va_P (dC, dI) vwCl [(mo, .inr (6, [.int 0, .ref m1, .ref m2, .int 0, .int 0, .ref m5, .ref m6, .ref m7, .ref m8, .int 0, .ref m10, .ref m11, .ref m12, .ref m13, .ref m14, .int 0, .int 0, .int 0, .ref m18, .int 0, .int 0, .int 0, .int 0, .int 0, .int 0, .int 0, .int 0, .int 0, .int 0, .int 0, .int 0, .int 0, .int 0, .int 0, .ref m34, .ref m35, .ref m36, .ref m37, .int 0]))] H := hP
  have hD : va_D A [(mo, .inr (6, [.int 0, .ref m1, .ref m2, .int 0, .int 0, .ref m5, .ref m6, .ref m7, .ref m8, .int 0, .ref m10, .ref m11, .ref m12, .ref m13, .ref m14, .int 0, .int 0, .int 0, .ref m18, .int 0, .int 0, .int 0, .int 0, .int 0, .int 0, .int 0, .int 0, .int 0, .int 0, .int 0, .int 0, .int 0, .int 0, .int 0, .ref m34, .ref m35, .ref m36, .ref m37, .int 0]))] := hD
  refine lv_aload_n hx hb dX8_state_5 rfl (lv_at hl 0 rfl) ?_
  refine va_get (D := (dC, dI)) (ci := 6) (v := .int 0) (C := RX8) (T := TX8) (N := 39) hx hb hts iX8 hown hK hP 0 rfl rfl 16 (by decide) (hts (.fieldLink RX8 61 "BatchTransferModel" "any" "Z") (by decide +kernel)) (fun _ h9 => h9) rfl dX8_state_6 ?_
  refine lv_if_eq (tgt := 21) hx hb dX8_state_9 (by decide) (fun c_1 => ?_) (fun c_1 => absurd (by decide) c_1)
  refine lv_iconst (v := (-1)) hx hb dX8_state_21 (by decide) ?_
  exact W.iret (v := (-1)) hx hb hr (fun t ht hW => ⟨⟨(-1), (), rfl, rfl, trivial⟩, hS.F ht⟩) hS.2.2 dX8_state_22

set_option maxHeartbeats 4000000 in
set_option maxRecDepth 100000 in
theorem m_received (l : Launch) (dC : Nat → ClassId) (dI : Nat → Nat → Nat) (mo m1 m2 m5 m6 m7 m8 m10 m11 m12 m13 m14 m18 m34 m35 m36 m37 : Nat)  (sz : Nat) : Met l yX8_received wsX8_received ({ frames := 0, cells := 0, slots := 0, locals := 0 }) (va_Pc [.ref mo] (fun U => U.heap.size = sz ∧ va_P (dC, dI) vwCl [(mo, .inr (6, [.int 0, .ref m1, .ref m2, .int 0, .int 0, .ref m5, .ref m6, .ref m7, .ref m8, .int 0, .ref m10, .ref m11, .ref m12, .ref m13, .ref m14, .int 0, .int 0, .int 0, .ref m18, .int 0, .int 0, .int 0, .int 0, .int 0, .int 0, .int 0, .int 0, .int 0, .int 0, .int 0, .int 0, .int 0, .int 0, .int 0, .ref m34, .ref m35, .ref m36, .ref m37, .int 0]))] U.heap ∧ va_K (dC, dI) vwCl [] U ∧ va_D (fun _ => True) [(mo, .inr (6, [.int 0, .ref m1, .ref m2, .int 0, .int 0, .ref m5, .ref m6, .ref m7, .ref m8, .int 0, .ref m10, .ref m11, .ref m12, .ref m13, .ref m14, .int 0, .int 0, .int 0, .ref m18, .int 0, .int 0, .int 0, .int 0, .int 0, .int 0, .int 0, .int 0, .int 0, .int 0, .int 0, .int 0, .int 0, .int 0, .int 0, .ref m34, .ref m35, .ref m36, .ref m37, .int 0]))])) (va_Qi (fun (r : Int32) (_ : Unit) => r = 0) (fun (_ : Unit) (_ : State) => True) (va_A [(mo, .inr (6, [.int 0, .ref m1, .ref m2, .int 0, .int 0, .ref m5, .ref m6, .ref m7, .ref m8, .int 0, .ref m10, .ref m11, .ref m12, .ref m13, .ref m14, .int 0, .int 0, .int 0, .ref m18, .int 0, .int 0, .int 0, .int 0, .int 0, .int 0, .int 0, .int 0, .int 0, .int 0, .int 0, .int 0, .int 0, .int 0, .int 0, .ref m34, .ref m35, .ref m36, .ref m37, .int 0]))] sz)) 0 0 (va_A [(mo, .inr (6, [.int 0, .ref m1, .ref m2, .int 0, .int 0, .ref m5, .ref m6, .ref m7, .ref m8, .int 0, .ref m10, .ref m11, .ref m12, .ref m13, .ref m14, .int 0, .int 0, .int 0, .ref m18, .int 0, .int 0, .int 0, .int 0, .int 0, .int 0, .int 0, .int 0, .int 0, .int 0, .int 0, .int 0, .int 0, .int 0, .int 0, .ref m34, .ref m35, .ref m36, .ref m37, .int 0]))] sz) := by
  refine Met.ofW (cc := cX8_received) (maxL := 1) (ret := (some .int)) (by decide) rfl ?_
  intro p e s m args below meth c s₁ B hml hv
  obtain ⟨rfl, hsz, hP, hK, hD0⟩ := hv
  have hx := B.exec
  have hb := B.bytes
  have hr := B.returns
  have hts := atoms_spec (ws := wsX8_received) B.pre
  have hown : s.vm.findClass RX8 = some m.cls := findClass_of_methodNamed B.named
  have hlocks := B.notSynchronized
  subst hsz
  have hD := hD0.self (sz := s.heap.size)
  generalize hAe : va_A [(mo, .inr (6, [.int 0, .ref m1, .ref m2, .int 0, .int 0, .ref m5, .ref m6, .ref m7, .ref m8, .int 0, .ref m10, .ref m11, .ref m12, .ref m13, .ref m14, .int 0, .int 0, .int 0, .ref m18, .int 0, .int 0, .int 0, .int 0, .int 0, .int 0, .int 0, .int 0, .int 0, .int 0, .int 0, .int 0, .int 0, .int 0, .int 0, .ref m34, .ref m35, .ref m36, .ref m37, .int 0]))] s.heap.size = A at hD ⊢
  have hA : ∀ q : Nat, s.heap.size ≤ q → A q := fun q h => by rw [← hAe]; exact Or.inr h
  have hS : va_S A s.heap s.heap [] := va_S.rf
  have hP : va_P (dC, dI) vwCl [(mo, .inr (6, [.int 0, .ref m1, .ref m2, .int 0, .int 0, .ref m5, .ref m6, .ref m7, .ref m8, .int 0, .ref m10, .ref m11, .ref m12, .ref m13, .ref m14, .int 0, .int 0, .int 0, .ref m18, .int 0, .int 0, .int 0, .int 0, .int 0, .int 0, .int 0, .int 0, .int 0, .int 0, .int 0, .int 0, .int 0, .int 0, .int 0, .ref m34, .ref m35, .ref m36, .ref m37, .int 0]))] s.heap := hP
  have hl := lv_entry ([.ref mo]) (n := 1) (Nat.le_of_ble_eq_true rfl)
  rw [lg_entry_eq]
  generalize (lg_sl ([.ref mo]) ++ List.replicate (1 - (lg_sl ([.ref mo])).length) Slot.unset).toArray = ls at hl ⊢
  have hl : lv_has ls 1 [(0, .ref mo)] := hl
  have iX8 : ∀ w ∈ wsX80, w ∈ wsX8_received := by decide +kernel
  refine lv_aload_n hx hb dX8_received_0 rfl (lv_at hl 0 rfl) ?_
  refine lv_iconst (v := 0) hx hb dX8_received_1 (by decide) ?_
  refine va_put (D := (dC, dI)) (ci := 6) (v := .int 0) (ty := .int) (C := RX8) (T := TX8) (N := 39) hx hb hts iX8 tyX8 tyX8_ok nmX8 hown hK hP hD hS 0 rfl rfl 0 (by decide) (hts (.fieldLink RX8 7 "BatchTransferModel" "thrownCode" "I") (by decide +kernel)) (fun _ h9 => h9) rfl (by decide +kernel) rfl rfl (Nat.le_of_ble_eq_true rfl) dX8_received_2 (fun H locs hP hD hS => ?_)
  have hP : va_P (dC, dI) vwCl [(mo, .inr (6, [.int 0, .ref m1, .ref m2, .int 0, .int 0, .ref m5, .ref m6, .ref m7, .ref m8, .int 0, .ref m10, .ref m11, .ref m12, .ref m13, .ref m14, .int 0, .int 0, .int 0, .ref m18, .int 0, .int 0, .int 0, .int 0, .int 0, .int 0, .int 0, .int 0, .int 0, .int 0, .int 0, .int 0, .int 0, .int 0, .int 0, .ref m34, .ref m35, .ref m36, .ref m37, .int 0]))] H := hP
  have hD : va_D A [(mo, .inr (6, [.int 0, .ref m1, .ref m2, .int 0, .int 0, .ref m5, .ref m6, .ref m7, .ref m8, .int 0, .ref m10, .ref m11, .ref m12, .ref m13, .ref m14, .int 0, .int 0, .int 0, .ref m18, .int 0, .int 0, .int 0, .int 0, .int 0, .int 0, .int 0, .int 0, .int 0, .int 0, .int 0, .int 0, .int 0, .int 0, .int 0, .ref m34, .ref m35, .ref m36, .ref m37, .int 0]))] := hD
  refine lv_aload_n hx hb dX8_received_5 rfl (lv_at hl 0 rfl) ?_
  refine va_get (D := (dC, dI)) (ci := 6) (v := .int 0) (C := RX8) (T := TX8) (N := 39) hx hb hts iX8 hown hK hP 0 rfl rfl 33 (by decide) (hts (.fieldLink RX8 112 "BatchTransferModel" "gotFiles" "I") (by decide +kernel)) (fun _ h9 => h9) rfl dX8_received_6 ?_
  exact W.iret (v := 0) hx hb hr (fun t ht hW => ⟨⟨0, (), rfl, rfl, trivial⟩, hS.F ht⟩) hS.2.2 dX8_received_9

set_option maxHeartbeats 4000000 in
set_option maxRecDepth 100000 in
theorem m_size (l : Launch) (dC : Nat → ClassId) (dI : Nat → Nat → Nat) (mo m1 m2 m5 m6 m7 m8 m10 m11 m12 m13 m14 m18 m34 m35 m36 m37 : Nat) (n0 : Int32) (sz : Nat) : Met l yX8_size wsX8_size ({ frames := 0, cells := 0, slots := 0, locals := 0 }) (va_Pc [.ref mo, .int n0] (fun U => U.heap.size = sz ∧ va_P (dC, dI) vwCl [(mo, .inr (6, [.int 0, .ref m1, .ref m2, .int 0, .int 0, .ref m5, .ref m6, .ref m7, .ref m8, .int 0, .ref m10, .ref m11, .ref m12, .ref m13, .ref m14, .int 0, .int 0, .int 0, .ref m18, .int 0, .int 0, .int 0, .int 0, .int 0, .int 0, .int 0, .int 0, .int 0, .int 0, .int 0, .int 0, .int 0, .int 0, .int 0, .ref m34, .ref m35, .ref m36, .ref m37, .int 0]))] U.heap ∧ va_K (dC, dI) vwCl [] U ∧ va_D (fun _ => True) [(mo, .inr (6, [.int 0, .ref m1, .ref m2, .int 0, .int 0, .ref m5, .ref m6, .ref m7, .ref m8, .int 0, .ref m10, .ref m11, .ref m12, .ref m13, .ref m14, .int 0, .int 0, .int 0, .ref m18, .int 0, .int 0, .int 0, .int 0, .int 0, .int 0, .int 0, .int 0, .int 0, .int 0, .int 0, .int 0, .int 0, .int 0, .int 0, .ref m34, .ref m35, .ref m36, .ref m37, .int 0]))])) (va_Qi (fun (r : Int32) (_ : Unit) => r = -1) (fun (_ : Unit) (_ : State) => True) (va_A [(mo, .inr (6, [.int 0, .ref m1, .ref m2, .int 0, .int 0, .ref m5, .ref m6, .ref m7, .ref m8, .int 0, .ref m10, .ref m11, .ref m12, .ref m13, .ref m14, .int 0, .int 0, .int 0, .ref m18, .int 0, .int 0, .int 0, .int 0, .int 0, .int 0, .int 0, .int 0, .int 0, .int 0, .int 0, .int 0, .int 0, .int 0, .int 0, .ref m34, .ref m35, .ref m36, .ref m37, .int 0]))] sz)) 0 0 (va_A [(mo, .inr (6, [.int 0, .ref m1, .ref m2, .int 0, .int 0, .ref m5, .ref m6, .ref m7, .ref m8, .int 0, .ref m10, .ref m11, .ref m12, .ref m13, .ref m14, .int 0, .int 0, .int 0, .ref m18, .int 0, .int 0, .int 0, .int 0, .int 0, .int 0, .int 0, .int 0, .int 0, .int 0, .int 0, .int 0, .int 0, .int 0, .int 0, .ref m34, .ref m35, .ref m36, .ref m37, .int 0]))] sz) := by
  refine Met.ofW (cc := cX8_size) (maxL := 2) (ret := (some .int)) (by decide) rfl ?_
  intro p e s m args below meth c s₁ B hml hv
  obtain ⟨rfl, hsz, hP, hK, hD0⟩ := hv
  have hx := B.exec
  have hb := B.bytes
  have hr := B.returns
  have hts := atoms_spec (ws := wsX8_size) B.pre
  have hown : s.vm.findClass RX8 = some m.cls := findClass_of_methodNamed B.named
  have hlocks := B.notSynchronized
  subst hsz
  have hD := hD0.self (sz := s.heap.size)
  generalize hAe : va_A [(mo, .inr (6, [.int 0, .ref m1, .ref m2, .int 0, .int 0, .ref m5, .ref m6, .ref m7, .ref m8, .int 0, .ref m10, .ref m11, .ref m12, .ref m13, .ref m14, .int 0, .int 0, .int 0, .ref m18, .int 0, .int 0, .int 0, .int 0, .int 0, .int 0, .int 0, .int 0, .int 0, .int 0, .int 0, .int 0, .int 0, .int 0, .int 0, .ref m34, .ref m35, .ref m36, .ref m37, .int 0]))] s.heap.size = A at hD ⊢
  have hA : ∀ q : Nat, s.heap.size ≤ q → A q := fun q h => by rw [← hAe]; exact Or.inr h
  have hS : va_S A s.heap s.heap [] := va_S.rf
  have hP : va_P (dC, dI) vwCl [(mo, .inr (6, [.int 0, .ref m1, .ref m2, .int 0, .int 0, .ref m5, .ref m6, .ref m7, .ref m8, .int 0, .ref m10, .ref m11, .ref m12, .ref m13, .ref m14, .int 0, .int 0, .int 0, .ref m18, .int 0, .int 0, .int 0, .int 0, .int 0, .int 0, .int 0, .int 0, .int 0, .int 0, .int 0, .int 0, .int 0, .int 0, .int 0, .ref m34, .ref m35, .ref m36, .ref m37, .int 0]))] s.heap := hP
  have hl := lv_entry ([.ref mo, .int n0]) (n := 2) (Nat.le_of_ble_eq_true rfl)
  rw [lg_entry_eq]
  generalize (lg_sl ([.ref mo, .int n0]) ++ List.replicate (2 - (lg_sl ([.ref mo, .int n0])).length) Slot.unset).toArray = ls at hl ⊢
  have hl : lv_has ls 2 [(0, .ref mo), (1, .int n0)] := hl
  have iX8 : ∀ w ∈ wsX80, w ∈ wsX8_size := by decide +kernel
  refine lv_aload_n hx hb dX8_size_0 rfl (lv_at hl 0 rfl) ?_
  refine lv_iconst (v := 0) hx hb dX8_size_1 (by decide) ?_
  refine va_put (D := (dC, dI)) (ci := 6) (v := .int 0) (ty := .int) (C := RX8) (T := TX8) (N := 39) hx hb hts iX8 tyX8 tyX8_ok nmX8 hown hK hP hD hS 0 rfl rfl 0 (by decide) (hts (.fieldLink RX8 7 "BatchTransferModel" "thrownCode" "I") (by decide +kernel)) (fun _ h9 => h9) rfl (by decide +kernel) rfl rfl (Nat.le_of_ble_eq_true rfl) dX8_size_2 (fun H locs hP hD hS => ?_)
  have hP : va_P (dC, dI) vwCl [(mo, .inr (6, [.int 0, .ref m1, .ref m2, .int 0, .int 0, .ref m5, .ref m6, .ref m7, .ref m8, .int 0, .ref m10, .ref m11, .ref m12, .ref m13, .ref m14, .int 0, .int 0, .int 0, .ref m18, .int 0, .int 0, .int 0, .int 0, .int 0, .int 0, .int 0, .int 0, .int 0, .int 0, .int 0, .int 0, .int 0, .int 0, .int 0, .ref m34, .ref m35, .ref m36, .ref m37, .int 0]))] H := hP
  have hD : va_D A [(mo, .inr (6, [.int 0, .ref m1, .ref m2, .int 0, .int 0, .ref m5, .ref m6, .ref m7, .ref m8, .int 0, .ref m10, .ref m11, .ref m12, .ref m13, .ref m14, .int 0, .int 0, .int 0, .ref m18, .int 0, .int 0, .int 0, .int 0, .int 0, .int 0, .int 0, .int 0, .int 0, .int 0, .int 0, .int 0, .int 0, .int 0, .int 0, .ref m34, .ref m35, .ref m36, .ref m37, .int 0]))] := hD
  refine lv_iload_n hx hb dX8_size_5 rfl (lv_at hl 1 rfl) ?_
  refine lv_if_lt (tgt := 17) hx hb dX8_size_6 (by decide) (fun c_1 => ?_) (fun c_1 => ?_)
  · refine lv_iconst (v := (-1)) hx hb dX8_size_17 (by decide) ?_
    refine lv_goto (tgt := 27) hx hb dX8_size_18 (by decide) ?_
    exact W.iret (v := (-1)) hx hb hr (fun t ht hW => ⟨⟨(-1), (), rfl, rfl, trivial⟩, hS.F ht⟩) hS.2.2 dX8_size_27
  · refine lv_iload_n hx hb dX8_size_9 rfl (lv_at hl 1 rfl) ?_
    refine lv_aload_n hx hb dX8_size_10 rfl (lv_at hl 0 rfl) ?_
    refine va_get (D := (dC, dI)) (ci := 6) (v := .int 0) (C := RX8) (T := TX8) (N := 39) hx hb hts iX8 hown hK hP 0 rfl rfl 33 (by decide) (hts (.fieldLink RX8 112 "BatchTransferModel" "gotFiles" "I") (by decide +kernel)) (fun _ h9 => h9) rfl dX8_size_11 ?_
    refine lv_icmp_lt (tgt := 21) hx hb dX8_size_14 (by decide) (fun c_2 => ?_) (fun c_2 => ?_)
    · exact absurd c_2 c_1
    · refine lv_iconst (v := (-1)) hx hb dX8_size_17 (by decide) ?_
      refine lv_goto (tgt := 27) hx hb dX8_size_18 (by decide) ?_
      exact W.iret (v := (-1)) hx hb hr (fun t ht hW => ⟨⟨(-1), (), rfl, rfl, trivial⟩, hS.F ht⟩) hS.2.2 dX8_size_27

set_option maxHeartbeats 4000000 in
set_option maxRecDepth 100000 in
theorem m_nameAt (l : Launch) (dC : Nat → ClassId) (dI : Nat → Nat → Nat) (mo m1 m2 m5 m6 m7 m8 m10 m11 m12 m13 m14 m18 m34 m35 m36 m37 : Nat) (n0 n1 : Int32) (sz : Nat) : Met l yX8_nameAt wsX8_nameAt ({ frames := 0, cells := 0, slots := 0, locals := 0 }) (va_Pc [.ref mo, .int n0, .int n1] (fun U => U.heap.size = sz ∧ va_P (dC, dI) vwCl [(mo, .inr (6, [.int 0, .ref m1, .ref m2, .int 0, .int 0, .ref m5, .ref m6, .ref m7, .ref m8, .int 0, .ref m10, .ref m11, .ref m12, .ref m13, .ref m14, .int 0, .int 0, .int 0, .ref m18, .int 0, .int 0, .int 0, .int 0, .int 0, .int 0, .int 0, .int 0, .int 0, .int 0, .int 0, .int 0, .int 0, .int 0, .int 0, .ref m34, .ref m35, .ref m36, .ref m37, .int 0]))] U.heap ∧ va_K (dC, dI) vwCl [] U ∧ va_D (fun _ => True) [(mo, .inr (6, [.int 0, .ref m1, .ref m2, .int 0, .int 0, .ref m5, .ref m6, .ref m7, .ref m8, .int 0, .ref m10, .ref m11, .ref m12, .ref m13, .ref m14, .int 0, .int 0, .int 0, .ref m18, .int 0, .int 0, .int 0, .int 0, .int 0, .int 0, .int 0, .int 0, .int 0, .int 0, .int 0, .int 0, .int 0, .int 0, .int 0, .ref m34, .ref m35, .ref m36, .ref m37, .int 0]))])) (va_Qi (fun (r : Int32) (_ : Unit) => r = -1) (fun (_ : Unit) (_ : State) => True) (va_A [(mo, .inr (6, [.int 0, .ref m1, .ref m2, .int 0, .int 0, .ref m5, .ref m6, .ref m7, .ref m8, .int 0, .ref m10, .ref m11, .ref m12, .ref m13, .ref m14, .int 0, .int 0, .int 0, .ref m18, .int 0, .int 0, .int 0, .int 0, .int 0, .int 0, .int 0, .int 0, .int 0, .int 0, .int 0, .int 0, .int 0, .int 0, .int 0, .ref m34, .ref m35, .ref m36, .ref m37, .int 0]))] sz)) 0 0 (va_A [(mo, .inr (6, [.int 0, .ref m1, .ref m2, .int 0, .int 0, .ref m5, .ref m6, .ref m7, .ref m8, .int 0, .ref m10, .ref m11, .ref m12, .ref m13, .ref m14, .int 0, .int 0, .int 0, .ref m18, .int 0, .int 0, .int 0, .int 0, .int 0, .int 0, .int 0, .int 0, .int 0, .int 0, .int 0, .int 0, .int 0, .int 0, .int 0, .ref m34, .ref m35, .ref m36, .ref m37, .int 0]))] sz) := by
  refine Met.ofW (cc := cX8_nameAt) (maxL := 3) (ret := (some .int)) (by decide) rfl ?_
  intro p e s m args below meth c s₁ B hml hv
  obtain ⟨rfl, hsz, hP, hK, hD0⟩ := hv
  have hx := B.exec
  have hb := B.bytes
  have hr := B.returns
  have hts := atoms_spec (ws := wsX8_nameAt) B.pre
  have hown : s.vm.findClass RX8 = some m.cls := findClass_of_methodNamed B.named
  have hlocks := B.notSynchronized
  subst hsz
  have hD := hD0.self (sz := s.heap.size)
  generalize hAe : va_A [(mo, .inr (6, [.int 0, .ref m1, .ref m2, .int 0, .int 0, .ref m5, .ref m6, .ref m7, .ref m8, .int 0, .ref m10, .ref m11, .ref m12, .ref m13, .ref m14, .int 0, .int 0, .int 0, .ref m18, .int 0, .int 0, .int 0, .int 0, .int 0, .int 0, .int 0, .int 0, .int 0, .int 0, .int 0, .int 0, .int 0, .int 0, .int 0, .ref m34, .ref m35, .ref m36, .ref m37, .int 0]))] s.heap.size = A at hD ⊢
  have hA : ∀ q : Nat, s.heap.size ≤ q → A q := fun q h => by rw [← hAe]; exact Or.inr h
  have hS : va_S A s.heap s.heap [] := va_S.rf
  have hP : va_P (dC, dI) vwCl [(mo, .inr (6, [.int 0, .ref m1, .ref m2, .int 0, .int 0, .ref m5, .ref m6, .ref m7, .ref m8, .int 0, .ref m10, .ref m11, .ref m12, .ref m13, .ref m14, .int 0, .int 0, .int 0, .ref m18, .int 0, .int 0, .int 0, .int 0, .int 0, .int 0, .int 0, .int 0, .int 0, .int 0, .int 0, .int 0, .int 0, .int 0, .int 0, .ref m34, .ref m35, .ref m36, .ref m37, .int 0]))] s.heap := hP
  have hl := lv_entry ([.ref mo, .int n0, .int n1]) (n := 3) (Nat.le_of_ble_eq_true rfl)
  rw [lg_entry_eq]
  generalize (lg_sl ([.ref mo, .int n0, .int n1]) ++ List.replicate (3 - (lg_sl ([.ref mo, .int n0, .int n1])).length) Slot.unset).toArray = ls at hl ⊢
  have hl : lv_has ls 3 [(0, .ref mo), (1, .int n0), (2, .int n1)] := hl
  have iX8 : ∀ w ∈ wsX80, w ∈ wsX8_nameAt := by decide +kernel
  refine lv_aload_n hx hb dX8_nameAt_0 rfl (lv_at hl 0 rfl) ?_
  refine lv_iconst (v := 0) hx hb dX8_nameAt_1 (by decide) ?_
  refine va_put (D := (dC, dI)) (ci := 6) (v := .int 0) (ty := .int) (C := RX8) (T := TX8) (N := 39) hx hb hts iX8 tyX8 tyX8_ok nmX8 hown hK hP hD hS 0 rfl rfl 0 (by decide) (hts (.fieldLink RX8 7 "BatchTransferModel" "thrownCode" "I") (by decide +kernel)) (fun _ h9 => h9) rfl (by decide +kernel) rfl rfl (Nat.le_of_ble_eq_true rfl) dX8_nameAt_2 (fun H locs hP hD hS => ?_)
  have hP : va_P (dC, dI) vwCl [(mo, .inr (6, [.int 0, .ref m1, .ref m2, .int 0, .int 0, .ref m5, .ref m6, .ref m7, .ref m8, .int 0, .ref m10, .ref m11, .ref m12, .ref m13, .ref m14, .int 0, .int 0, .int 0, .ref m18, .int 0, .int 0, .int 0, .int 0, .int 0, .int 0, .int 0, .int 0, .int 0, .int 0, .int 0, .int 0, .int 0, .int 0, .int 0, .ref m34, .ref m35, .ref m36, .ref m37, .int 0]))] H := hP
  have hD : va_D A [(mo, .inr (6, [.int 0, .ref m1, .ref m2, .int 0, .int 0, .ref m5, .ref m6, .ref m7, .ref m8, .int 0, .ref m10, .ref m11, .ref m12, .ref m13, .ref m14, .int 0, .int 0, .int 0, .ref m18, .int 0, .int 0, .int 0, .int 0, .int 0, .int 0, .int 0, .int 0, .int 0, .int 0, .int 0, .int 0, .int 0, .int 0, .int 0, .ref m34, .ref m35, .ref m36, .ref m37, .int 0]))] := hD
  refine lv_iload_n hx hb dX8_nameAt_5 rfl (lv_at hl 1 rfl) ?_
  refine lv_if_lt (tgt := 31) hx hb dX8_nameAt_6 (by decide) (fun c_1 => ?_) (fun c_1 => ?_)
  · refine lv_iconst (v := (-1)) hx hb dX8_nameAt_31 (by decide) ?_
    exact W.iret (v := (-1)) hx hb hr (fun t ht hW => ⟨⟨(-1), (), rfl, rfl, trivial⟩, hS.F ht⟩) hS.2.2 dX8_nameAt_32
  · refine lv_iload_n hx hb dX8_nameAt_9 rfl (lv_at hl 1 rfl) ?_
    refine lv_aload_n hx hb dX8_nameAt_10 rfl (lv_at hl 0 rfl) ?_
    refine va_get (D := (dC, dI)) (ci := 6) (v := .int 0) (C := RX8) (T := TX8) (N := 39) hx hb hts iX8 hown hK hP 0 rfl rfl 33 (by decide) (hts (.fieldLink RX8 112 "BatchTransferModel" "gotFiles" "I") (by decide +kernel)) (fun _ h9 => h9) rfl dX8_nameAt_11 ?_
    refine lv_icmp_ge (tgt := 31) hx hb dX8_nameAt_14 (by decide) (fun c_2 => ?_) (fun c_2 => ?_)
    · refine lv_iconst (v := (-1)) hx hb dX8_nameAt_31 (by decide) ?_
      exact W.iret (v := (-1)) hx hb hr (fun t ht hW => ⟨⟨(-1), (), rfl, rfl, trivial⟩, hS.F ht⟩) hS.2.2 dX8_nameAt_32
    · exact absurd (Int32.not_lt.mp c_1) c_2

set_option maxHeartbeats 4000000 in
set_option maxRecDepth 100000 in
theorem m_lineAt (l : Launch) (dC : Nat → ClassId) (dI : Nat → Nat → Nat) (mo m1 m2 m5 m6 m7 m8 m10 m11 m12 m13 m14 m18 m34 m35 m36 m37 : Nat) (n0 : Int32) (sz : Nat) : Met l yX8_lineAt wsX8_lineAt ({ frames := 0, cells := 0, slots := 0, locals := 0 }) (va_Pc [.ref mo, .int n0] (fun U => U.heap.size = sz ∧ va_P (dC, dI) vwCl [(mo, .inr (6, [.int 0, .ref m1, .ref m2, .int 0, .int 0, .ref m5, .ref m6, .ref m7, .ref m8, .int 0, .ref m10, .ref m11, .ref m12, .ref m13, .ref m14, .int 0, .int 0, .int 0, .ref m18, .int 0, .int 0, .int 0, .int 0, .int 0, .int 0, .int 0, .int 0, .int 0, .int 0, .int 0, .int 0, .int 0, .int 0, .int 0, .ref m34, .ref m35, .ref m36, .ref m37, .int 0]))] U.heap ∧ va_K (dC, dI) vwCl [] U ∧ va_D (fun _ => True) [(mo, .inr (6, [.int 0, .ref m1, .ref m2, .int 0, .int 0, .ref m5, .ref m6, .ref m7, .ref m8, .int 0, .ref m10, .ref m11, .ref m12, .ref m13, .ref m14, .int 0, .int 0, .int 0, .ref m18, .int 0, .int 0, .int 0, .int 0, .int 0, .int 0, .int 0, .int 0, .int 0, .int 0, .int 0, .int 0, .int 0, .int 0, .int 0, .ref m34, .ref m35, .ref m36, .ref m37, .int 0]))])) (va_Qi (fun (r : Int32) (_ : Unit) => True) (fun (_ : Unit) (t : State) => va_P (dC, dI) vwCl [(mo, .inr (6, [.int 1, .ref m1, .ref m2, .int 0, .int 0, .ref m5, .ref m6, .ref m7, .ref m8, .int 0, .ref m10, .ref m11, .ref m12, .ref m13, .ref m14, .int 0, .int 0, .int 0, .ref m18, .int 0, .int 0, .int 0, .int 0, .int 0, .int 0, .int 0, .int 0, .int 0, .int 0, .int 0, .int 0, .int 0, .int 0, .int 0, .ref m34, .ref m35, .ref m36, .ref m37, .int 0]))] t.heap ∧ va_K (dC, dI) vwCl [] t ∧ va_D (va_A [(mo, .inr (6, [.int 0, .ref m1, .ref m2, .int 0, .int 0, .ref m5, .ref m6, .ref m7, .ref m8, .int 0, .ref m10, .ref m11, .ref m12, .ref m13, .ref m14, .int 0, .int 0, .int 0, .ref m18, .int 0, .int 0, .int 0, .int 0, .int 0, .int 0, .int 0, .int 0, .int 0, .int 0, .int 0, .int 0, .int 0, .int 0, .int 0, .ref m34, .ref m35, .ref m36, .ref m37, .int 0]))] sz) [(mo, .inr (6, [.int 1, .ref m1, .ref m2, .int 0, .int 0, .ref m5, .ref m6, .ref m7, .ref m8, .int 0, .ref m10, .ref m11, .ref m12, .ref m13, .ref m14, .int 0, .int 0, .int 0, .ref m18, .int 0, .int 0, .int 0, .int 0, .int 0, .int 0, .int 0, .int 0, .int 0, .int 0, .int 0, .int 0, .int 0, .int 0, .int 0, .ref m34, .ref m35, .ref m36, .ref m37, .int 0]))]) (va_A [(mo, .inr (6, [.int 0, .ref m1, .ref m2, .int 0, .int 0, .ref m5, .ref m6, .ref m7, .ref m8, .int 0, .ref m10, .ref m11, .ref m12, .ref m13, .ref m14, .int 0, .int 0, .int 0, .ref m18, .int 0, .int 0, .int 0, .int 0, .int 0, .int 0, .int 0, .int 0, .int 0, .int 0, .int 0, .int 0, .int 0, .int 0, .int 0, .ref m34, .ref m35, .ref m36, .ref m37, .int 0]))] sz)) 0 0 (va_A [(mo, .inr (6, [.int 0, .ref m1, .ref m2, .int 0, .int 0, .ref m5, .ref m6, .ref m7, .ref m8, .int 0, .ref m10, .ref m11, .ref m12, .ref m13, .ref m14, .int 0, .int 0, .int 0, .ref m18, .int 0, .int 0, .int 0, .int 0, .int 0, .int 0, .int 0, .int 0, .int 0, .int 0, .int 0, .int 0, .int 0, .int 0, .int 0, .ref m34, .ref m35, .ref m36, .ref m37, .int 0]))] sz) := by
  refine Met.ofW (cc := cX8_lineAt) (maxL := 2) (ret := (some .int)) (by decide) rfl ?_
  intro p e s m args below meth c s₁ B hml hv
  obtain ⟨rfl, hsz, hP, hK, hD0⟩ := hv
  have hx := B.exec
  have hb := B.bytes
  have hr := B.returns
  have hts := atoms_spec (ws := wsX8_lineAt) B.pre
  have hown : s.vm.findClass RX8 = some m.cls := findClass_of_methodNamed B.named
  have hlocks := B.notSynchronized
  subst hsz
  have hD := hD0.self (sz := s.heap.size)
  generalize hAe : va_A [(mo, .inr (6, [.int 0, .ref m1, .ref m2, .int 0, .int 0, .ref m5, .ref m6, .ref m7, .ref m8, .int 0, .ref m10, .ref m11, .ref m12, .ref m13, .ref m14, .int 0, .int 0, .int 0, .ref m18, .int 0, .int 0, .int 0, .int 0, .int 0, .int 0, .int 0, .int 0, .int 0, .int 0, .int 0, .int 0, .int 0, .int 0, .int 0, .ref m34, .ref m35, .ref m36, .ref m37, .int 0]))] s.heap.size = A at hD ⊢
  have hA : ∀ q : Nat, s.heap.size ≤ q → A q := fun q h => by rw [← hAe]; exact Or.inr h
  have hS : va_S A s.heap s.heap [] := va_S.rf
  have hP : va_P (dC, dI) vwCl [(mo, .inr (6, [.int 0, .ref m1, .ref m2, .int 0, .int 0, .ref m5, .ref m6, .ref m7, .ref m8, .int 0, .ref m10, .ref m11, .ref m12, .ref m13, .ref m14, .int 0, .int 0, .int 0, .ref m18, .int 0, .int 0, .int 0, .int 0, .int 0, .int 0, .int 0, .int 0, .int 0, .int 0, .int 0, .int 0, .int 0, .int 0, .int 0, .ref m34, .ref m35, .ref m36, .ref m37, .int 0]))] s.heap := hP
  have hl := lv_entry ([.ref mo, .int n0]) (n := 2) (Nat.le_of_ble_eq_true rfl)
  rw [lg_entry_eq]
  generalize (lg_sl ([.ref mo, .int n0]) ++ List.replicate (2 - (lg_sl ([.ref mo, .int n0])).length) Slot.unset).toArray = ls at hl ⊢
  have hl : lv_has ls 2 [(0, .ref mo), (1, .int n0)] := hl
  have iX8 : ∀ w ∈ wsX80, w ∈ wsX8_lineAt := by decide +kernel
  refine lv_aload_n hx hb dX8_lineAt_0 rfl (lv_at hl 0 rfl) ?_
  refine lv_iconst (v := 0) hx hb dX8_lineAt_1 (by decide) ?_
  refine va_put (D := (dC, dI)) (ci := 6) (v := .int 0) (ty := .int) (C := RX8) (T := TX8) (N := 39) hx hb hts iX8 tyX8 tyX8_ok nmX8 hown hK hP hD hS 0 rfl rfl 0 (by decide) (hts (.fieldLink RX8 7 "BatchTransferModel" "thrownCode" "I") (by decide +kernel)) (fun _ h9 => h9) rfl (by decide +kernel) rfl rfl (Nat.le_of_ble_eq_true rfl) dX8_lineAt_2 (fun H locs hP hD hS => ?_)
  have hP : va_P (dC, dI) vwCl [(mo, .inr (6, [.int 0, .ref m1, .ref m2, .int 0, .int 0, .ref m5, .ref m6, .ref m7, .ref m8, .int 0, .ref m10, .ref m11, .ref m12, .ref m13, .ref m14, .int 0, .int 0, .int 0, .ref m18, .int 0, .int 0, .int 0, .int 0, .int 0, .int 0, .int 0, .int 0, .int 0, .int 0, .int 0, .int 0, .int 0, .int 0, .int 0, .ref m34, .ref m35, .ref m36, .ref m37, .int 0]))] H := hP
  have hD : va_D A [(mo, .inr (6, [.int 0, .ref m1, .ref m2, .int 0, .int 0, .ref m5, .ref m6, .ref m7, .ref m8, .int 0, .ref m10, .ref m11, .ref m12, .ref m13, .ref m14, .int 0, .int 0, .int 0, .ref m18, .int 0, .int 0, .int 0, .int 0, .int 0, .int 0, .int 0, .int 0, .int 0, .int 0, .int 0, .int 0, .int 0, .int 0, .int 0, .ref m34, .ref m35, .ref m36, .ref m37, .int 0]))] := hD
  refine lv_aload_n hx hb dX8_lineAt_5 rfl (lv_at hl 0 rfl) ?_
  refine va_get (D := (dC, dI)) (ci := 6) (v := .int 0) (C := RX8) (T := TX8) (N := 39) hx hb hts iX8 hown hK hP 0 rfl rfl 15 (by decide) (hts (.fieldLink RX8 57 "BatchTransferModel" "on" "Z") (by decide +kernel)) (fun _ h9 => h9) rfl dX8_lineAt_6 ?_
  refine lv_if_eq (tgt := 24) hx hb dX8_lineAt_9 (by decide) (fun c_1 => ?_) (fun c_1 => absurd (by decide) c_1)
  refine lv_aload_n hx hb dX8_lineAt_24 rfl (lv_at hl 0 rfl) ?_
  refine lv_iconst (v := 1) hx hb dX8_lineAt_25 (by decide) ?_
  refine va_put (D := (dC, dI)) (ci := 6) (v := .int 1) (ty := .int) (C := RX8) (T := TX8) (N := 39) hx hb hts iX8 tyX8 tyX8_ok nmX8 hown hK hP hD hS 0 rfl rfl 0 (by decide) (hts (.fieldLink RX8 7 "BatchTransferModel" "thrownCode" "I") (by decide +kernel)) (fun _ h9 => h9) rfl (by decide +kernel) rfl rfl (Nat.le_of_ble_eq_true rfl) dX8_lineAt_26 (fun H locs hP hD hS => ?_)
  have hP : va_P (dC, dI) vwCl [(mo, .inr (6, [.int 1, .ref m1, .ref m2, .int 0, .int 0, .ref m5, .ref m6, .ref m7, .ref m8, .int 0, .ref m10, .ref m11, .ref m12, .ref m13, .ref m14, .int 0, .int 0, .int 0, .ref m18, .int 0, .int 0, .int 0, .int 0, .int 0, .int 0, .int 0, .int 0, .int 0, .int 0, .int 0, .int 0, .int 0, .int 0, .int 0, .ref m34, .ref m35, .ref m36, .ref m37, .int 0]))] H := hP
  have hD : va_D A [(mo, .inr (6, [.int 1, .ref m1, .ref m2, .int 0, .int 0, .ref m5, .ref m6, .ref m7, .ref m8, .int 0, .ref m10, .ref m11, .ref m12, .ref m13, .ref m14, .int 0, .int 0, .int 0, .ref m18, .int 0, .int 0, .int 0, .int 0, .int 0, .int 0, .int 0, .int 0, .int 0, .int 0, .int 0, .int 0, .int 0, .int 0, .int 0, .ref m34, .ref m35, .ref m36, .ref m37, .int 0]))] := hD
  refine lv_iconst (v := 0) hx hb dX8_lineAt_29 (by decide) ?_
  have hP9 := hP.sub (ws' := [(mo, .inr (6, [.int 1, .ref m1, .ref m2, .int 0, .int 0, .ref m5, .ref m6, .ref m7, .ref m8, .int 0, .ref m10, .ref m11, .ref m12, .ref m13, .ref m14, .int 0, .int 0, .int 0, .ref m18, .int 0, .int 0, .int 0, .int 0, .int 0, .int 0, .int 0, .int 0, .int 0, .int 0, .int 0, .int 0, .int 0, .int 0, .int 0, .ref m34, .ref m35, .ref m36, .ref m37, .int 0]))]) [0] rfl
  have hD9 := hD.sub (ws' := [(mo, .inr (6, [.int 1, .ref m1, .ref m2, .int 0, .int 0, .ref m5, .ref m6, .ref m7, .ref m8, .int 0, .ref m10, .ref m11, .ref m12, .ref m13, .ref m14, .int 0, .int 0, .int 0, .ref m18, .int 0, .int 0, .int 0, .int 0, .int 0, .int 0, .int 0, .int 0, .int 0, .int 0, .int 0, .int 0, .int 0, .int 0, .int 0, .ref m34, .ref m35, .ref m36, .ref m37, .int 0]))]) [0] (by decide) rfl
  have hK9 := hK.sub (tys' := []) [] rfl
  exact W.iret (v := 0) hx hb hr (fun t ht hW => ⟨⟨0, (), rfl, trivial, by rw [ht]; exact hP9, va_K.moved hW.alike hK9, hD9⟩, hS.F ht⟩) hS.2.2 dX8_lineAt_30

set_option maxHeartbeats 4000000 in
set_option maxRecDepth 100000 in
theorem m_byteAt (l : Launch) (dC : Nat → ClassId) (dI : Nat → Nat → Nat) (mo m1 m2 m5 m6 m7 m8 m10 m11 m12 m13 m14 m18 m34 m35 m36 m37 : Nat) (n0 n1 : Int32) (sz : Nat) : Met l yX8_byteAt wsX8_byteAt ({ frames := 0, cells := 0, slots := 0, locals := 0 }) (va_Pc [.ref mo, .int n0, .int n1] (fun U => U.heap.size = sz ∧ va_P (dC, dI) vwCl [(mo, .inr (6, [.int 0, .ref m1, .ref m2, .int 0, .int 0, .ref m5, .ref m6, .ref m7, .ref m8, .int 0, .ref m10, .ref m11, .ref m12, .ref m13, .ref m14, .int 0, .int 0, .int 0, .ref m18, .int 0, .int 0, .int 0, .int 0, .int 0, .int 0, .int 0, .int 0, .int 0, .int 0, .int 0, .int 0, .int 0, .int 0, .int 0, .ref m34, .ref m35, .ref m36, .ref m37, .int 0]))] U.heap ∧ va_K (dC, dI) vwCl [] U ∧ va_D (fun _ => True) [(mo, .inr (6, [.int 0, .ref m1, .ref m2, .int 0, .int 0, .ref m5, .ref m6, .ref m7, .ref m8, .int 0, .ref m10, .ref m11, .ref m12, .ref m13, .ref m14, .int 0, .int 0, .int 0, .ref m18, .int 0, .int 0, .int 0, .int 0, .int 0, .int 0, .int 0, .int 0, .int 0, .int 0, .int 0, .int 0, .int 0, .int 0, .int 0, .ref m34, .ref m35, .ref m36, .ref m37, .int 0]))])) (va_Qi (fun (r : Int32) (_ : Unit) => True) (fun (_ : Unit) (t : State) => va_P (dC, dI) vwCl [(mo, .inr (6, [.int 1, .ref m1, .ref m2, .int 0, .int 0, .ref m5, .ref m6, .ref m7, .ref m8, .int 0, .ref m10, .ref m11, .ref m12, .ref m13, .ref m14, .int 0, .int 0, .int 0, .ref m18, .int 0, .int 0, .int 0, .int 0, .int 0, .int 0, .int 0, .int 0, .int 0, .int 0, .int 0, .int 0, .int 0, .int 0, .int 0, .ref m34, .ref m35, .ref m36, .ref m37, .int 0]))] t.heap ∧ va_K (dC, dI) vwCl [] t ∧ va_D (va_A [(mo, .inr (6, [.int 0, .ref m1, .ref m2, .int 0, .int 0, .ref m5, .ref m6, .ref m7, .ref m8, .int 0, .ref m10, .ref m11, .ref m12, .ref m13, .ref m14, .int 0, .int 0, .int 0, .ref m18, .int 0, .int 0, .int 0, .int 0, .int 0, .int 0, .int 0, .int 0, .int 0, .int 0, .int 0, .int 0, .int 0, .int 0, .int 0, .ref m34, .ref m35, .ref m36, .ref m37, .int 0]))] sz) [(mo, .inr (6, [.int 1, .ref m1, .ref m2, .int 0, .int 0, .ref m5, .ref m6, .ref m7, .ref m8, .int 0, .ref m10, .ref m11, .ref m12, .ref m13, .ref m14, .int 0, .int 0, .int 0, .ref m18, .int 0, .int 0, .int 0, .int 0, .int 0, .int 0, .int 0, .int 0, .int 0, .int 0, .int 0, .int 0, .int 0, .int 0, .int 0, .ref m34, .ref m35, .ref m36, .ref m37, .int 0]))]) (va_A [(mo, .inr (6, [.int 0, .ref m1, .ref m2, .int 0, .int 0, .ref m5, .ref m6, .ref m7, .ref m8, .int 0, .ref m10, .ref m11, .ref m12, .ref m13, .ref m14, .int 0, .int 0, .int 0, .ref m18, .int 0, .int 0, .int 0, .int 0, .int 0, .int 0, .int 0, .int 0, .int 0, .int 0, .int 0, .int 0, .int 0, .int 0, .int 0, .ref m34, .ref m35, .ref m36, .ref m37, .int 0]))] sz)) 0 0 (va_A [(mo, .inr (6, [.int 0, .ref m1, .ref m2, .int 0, .int 0, .ref m5, .ref m6, .ref m7, .ref m8, .int 0, .ref m10, .ref m11, .ref m12, .ref m13, .ref m14, .int 0, .int 0, .int 0, .ref m18, .int 0, .int 0, .int 0, .int 0, .int 0, .int 0, .int 0, .int 0, .int 0, .int 0, .int 0, .int 0, .int 0, .int 0, .int 0, .ref m34, .ref m35, .ref m36, .ref m37, .int 0]))] sz) := by
  refine Met.ofW (cc := cX8_byteAt) (maxL := 3) (ret := (some .int)) (by decide) rfl ?_
  intro p e s m args below meth c s₁ B hml hv
  obtain ⟨rfl, hsz, hP, hK, hD0⟩ := hv
  have hx := B.exec
  have hb := B.bytes
  have hr := B.returns
  have hts := atoms_spec (ws := wsX8_byteAt) B.pre
  have hown : s.vm.findClass RX8 = some m.cls := findClass_of_methodNamed B.named
  have hlocks := B.notSynchronized
  subst hsz
  have hD := hD0.self (sz := s.heap.size)
  generalize hAe : va_A [(mo, .inr (6, [.int 0, .ref m1, .ref m2, .int 0, .int 0, .ref m5, .ref m6, .ref m7, .ref m8, .int 0, .ref m10, .ref m11, .ref m12, .ref m13, .ref m14, .int 0, .int 0, .int 0, .ref m18, .int 0, .int 0, .int 0, .int 0, .int 0, .int 0, .int 0, .int 0, .int 0, .int 0, .int 0, .int 0, .int 0, .int 0, .int 0, .ref m34, .ref m35, .ref m36, .ref m37, .int 0]))] s.heap.size = A at hD ⊢
  have hA : ∀ q : Nat, s.heap.size ≤ q → A q := fun q h => by rw [← hAe]; exact Or.inr h
  have hS : va_S A s.heap s.heap [] := va_S.rf
  have hP : va_P (dC, dI) vwCl [(mo, .inr (6, [.int 0, .ref m1, .ref m2, .int 0, .int 0, .ref m5, .ref m6, .ref m7, .ref m8, .int 0, .ref m10, .ref m11, .ref m12, .ref m13, .ref m14, .int 0, .int 0, .int 0, .ref m18, .int 0, .int 0, .int 0, .int 0, .int 0, .int 0, .int 0, .int 0, .int 0, .int 0, .int 0, .int 0, .int 0, .int 0, .int 0, .ref m34, .ref m35, .ref m36, .ref m37, .int 0]))] s.heap := hP
  have hl := lv_entry ([.ref mo, .int n0, .int n1]) (n := 3) (Nat.le_of_ble_eq_true rfl)
  rw [lg_entry_eq]
  generalize (lg_sl ([.ref mo, .int n0, .int n1]) ++ List.replicate (3 - (lg_sl ([.ref mo, .int n0, .int n1])).length) Slot.unset).toArray = ls at hl ⊢
  have hl : lv_has ls 3 [(0, .ref mo), (1, .int n0), (2, .int n1)] := hl
  have iX8 : ∀ w ∈ wsX80, w ∈ wsX8_byteAt := by decide +kernel
  refine lv_aload_n hx hb dX8_byteAt_0 rfl (lv_at hl 0 rfl) ?_
  refine lv_iconst (v := 0) hx hb dX8_byteAt_1 (by decide) ?_
  refine va_put (D := (dC, dI)) (ci := 6) (v := .int 0) (ty := .int) (C := RX8) (T := TX8) (N := 39) hx hb hts iX8 tyX8 tyX8_ok nmX8 hown hK hP hD hS 0 rfl rfl 0 (by decide) (hts (.fieldLink RX8 7 "BatchTransferModel" "thrownCode" "I") (by decide +kernel)) (fun _ h9 => h9) rfl (by decide +kernel) rfl rfl (Nat.le_of_ble_eq_true rfl) dX8_byteAt_2 (fun H locs hP hD hS => ?_)
  have hP : va_P (dC, dI) vwCl [(mo, .inr (6, [.int 0, .ref m1, .ref m2, .int 0, .int 0, .ref m5, .ref m6, .ref m7, .ref m8, .int 0, .ref m10, .ref m11, .ref m12, .ref m13, .ref m14, .int 0, .int 0, .int 0, .ref m18, .int 0, .int 0, .int 0, .int 0, .int 0, .int 0, .int 0, .int 0, .int 0, .int 0, .int 0, .int 0, .int 0, .int 0, .int 0, .ref m34, .ref m35, .ref m36, .ref m37, .int 0]))] H := hP
  have hD : va_D A [(mo, .inr (6, [.int 0, .ref m1, .ref m2, .int 0, .int 0, .ref m5, .ref m6, .ref m7, .ref m8, .int 0, .ref m10, .ref m11, .ref m12, .ref m13, .ref m14, .int 0, .int 0, .int 0, .ref m18, .int 0, .int 0, .int 0, .int 0, .int 0, .int 0, .int 0, .int 0, .int 0, .int 0, .int 0, .int 0, .int 0, .int 0, .int 0, .ref m34, .ref m35, .ref m36, .ref m37, .int 0]))] := hD
  refine lv_iload_n hx hb dX8_byteAt_5 rfl (lv_at hl 1 rfl) ?_
  refine lv_if_lt (tgt := 31) hx hb dX8_byteAt_6 (by decide) (fun c_1 => ?_) (fun c_1 => ?_)
  · refine lv_aload_n hx hb dX8_byteAt_31 rfl (lv_at hl 0 rfl) ?_
    refine lv_iconst (v := 1) hx hb dX8_byteAt_32 (by decide) ?_
    refine va_put (D := (dC, dI)) (ci := 6) (v := .int 1) (ty := .int) (C := RX8) (T := TX8) (N := 39) hx hb hts iX8 tyX8 tyX8_ok nmX8 hown hK hP hD hS 0 rfl rfl 0 (by decide) (hts (.fieldLink RX8 7 "BatchTransferModel" "thrownCode" "I") (by decide +kernel)) (fun _ h9 => h9) rfl (by decide +kernel) rfl rfl (Nat.le_of_ble_eq_true rfl) dX8_byteAt_33 (fun H locs hP hD hS => ?_)
    have hP : va_P (dC, dI) vwCl [(mo, .inr (6, [.int 1, .ref m1, .ref m2, .int 0, .int 0, .ref m5, .ref m6, .ref m7, .ref m8, .int 0, .ref m10, .ref m11, .ref m12, .ref m13, .ref m14, .int 0, .int 0, .int 0, .ref m18, .int 0, .int 0, .int 0, .int 0, .int 0, .int 0, .int 0, .int 0, .int 0, .int 0, .int 0, .int 0, .int 0, .int 0, .int 0, .ref m34, .ref m35, .ref m36, .ref m37, .int 0]))] H := hP
    have hD : va_D A [(mo, .inr (6, [.int 1, .ref m1, .ref m2, .int 0, .int 0, .ref m5, .ref m6, .ref m7, .ref m8, .int 0, .ref m10, .ref m11, .ref m12, .ref m13, .ref m14, .int 0, .int 0, .int 0, .ref m18, .int 0, .int 0, .int 0, .int 0, .int 0, .int 0, .int 0, .int 0, .int 0, .int 0, .int 0, .int 0, .int 0, .int 0, .int 0, .ref m34, .ref m35, .ref m36, .ref m37, .int 0]))] := hD
    refine lv_iconst (v := 0) hx hb dX8_byteAt_36 (by decide) ?_
    have hP9 := hP.sub (ws' := [(mo, .inr (6, [.int 1, .ref m1, .ref m2, .int 0, .int 0, .ref m5, .ref m6, .ref m7, .ref m8, .int 0, .ref m10, .ref m11, .ref m12, .ref m13, .ref m14, .int 0, .int 0, .int 0, .ref m18, .int 0, .int 0, .int 0, .int 0, .int 0, .int 0, .int 0, .int 0, .int 0, .int 0, .int 0, .int 0, .int 0, .int 0, .int 0, .ref m34, .ref m35, .ref m36, .ref m37, .int 0]))]) [0] rfl
    have hD9 := hD.sub (ws' := [(mo, .inr (6, [.int 1, .ref m1, .ref m2, .int 0, .int 0, .ref m5, .ref m6, .ref m7, .ref m8, .int 0, .ref m10, .ref m11, .ref m12, .ref m13, .ref m14, .int 0, .int 0, .int 0, .ref m18, .int 0, .int 0, .int 0, .int 0, .int 0, .int 0, .int 0, .int 0, .int 0, .int 0, .int 0, .int 0, .int 0, .int 0, .int 0, .ref m34, .ref m35, .ref m36, .ref m37, .int 0]))]) [0] (by decide) rfl
    have hK9 := hK.sub (tys' := []) [] rfl
    exact W.iret (v := 0) hx hb hr (fun t ht hW => ⟨⟨0, (), rfl, trivial, by rw [ht]; exact hP9, va_K.moved hW.alike hK9, hD9⟩, hS.F ht⟩) hS.2.2 dX8_byteAt_37
  · refine lv_iload_n hx hb dX8_byteAt_9 rfl (lv_at hl 1 rfl) ?_
    refine lv_aload_n hx hb dX8_byteAt_10 rfl (lv_at hl 0 rfl) ?_
    refine va_get (D := (dC, dI)) (ci := 6) (v := .int 0) (C := RX8) (T := TX8) (N := 39) hx hb hts iX8 hown hK hP 0 rfl rfl 33 (by decide) (hts (.fieldLink RX8 112 "BatchTransferModel" "gotFiles" "I") (by decide +kernel)) (fun _ h9 => h9) rfl dX8_byteAt_11 ?_
    refine lv_icmp_ge (tgt := 31) hx hb dX8_byteAt_14 (by decide) (fun c_2 => ?_) (fun c_2 => ?_)
    · refine lv_aload_n hx hb dX8_byteAt_31 rfl (lv_at hl 0 rfl) ?_
      refine lv_iconst (v := 1) hx hb dX8_byteAt_32 (by decide) ?_
      refine va_put (D := (dC, dI)) (ci := 6) (v := .int 1) (ty := .int) (C := RX8) (T := TX8) (N := 39) hx hb hts iX8 tyX8 tyX8_ok nmX8 hown hK hP hD hS 0 rfl rfl 0 (by decide) (hts (.fieldLink RX8 7 "BatchTransferModel" "thrownCode" "I") (by decide +kernel)) (fun _ h9 => h9) rfl (by decide +kernel) rfl rfl (Nat.le_of_ble_eq_true rfl) dX8_byteAt_33 (fun H locs hP hD hS => ?_)
      have hP : va_P (dC, dI) vwCl [(mo, .inr (6, [.int 1, .ref m1, .ref m2, .int 0, .int 0, .ref m5, .ref m6, .ref m7, .ref m8, .int 0, .ref m10, .ref m11, .ref m12, .ref m13, .ref m14, .int 0, .int 0, .int 0, .ref m18, .int 0, .int 0, .int 0, .int 0, .int 0, .int 0, .int 0, .int 0, .int 0, .int 0, .int 0, .int 0, .int 0, .int 0, .int 0, .ref m34, .ref m35, .ref m36, .ref m37, .int 0]))] H := hP
      have hD : va_D A [(mo, .inr (6, [.int 1, .ref m1, .ref m2, .int 0, .int 0, .ref m5, .ref m6, .ref m7, .ref m8, .int 0, .ref m10, .ref m11, .ref m12, .ref m13, .ref m14, .int 0, .int 0, .int 0, .ref m18, .int 0, .int 0, .int 0, .int 0, .int 0, .int 0, .int 0, .int 0, .int 0, .int 0, .int 0, .int 0, .int 0, .int 0, .int 0, .ref m34, .ref m35, .ref m36, .ref m37, .int 0]))] := hD
      refine lv_iconst (v := 0) hx hb dX8_byteAt_36 (by decide) ?_
      have hP9 := hP.sub (ws' := [(mo, .inr (6, [.int 1, .ref m1, .ref m2, .int 0, .int 0, .ref m5, .ref m6, .ref m7, .ref m8, .int 0, .ref m10, .ref m11, .ref m12, .ref m13, .ref m14, .int 0, .int 0, .int 0, .ref m18, .int 0, .int 0, .int 0, .int 0, .int 0, .int 0, .int 0, .int 0, .int 0, .int 0, .int 0, .int 0, .int 0, .int 0, .int 0, .ref m34, .ref m35, .ref m36, .ref m37, .int 0]))]) [0] rfl
      have hD9 := hD.sub (ws' := [(mo, .inr (6, [.int 1, .ref m1, .ref m2, .int 0, .int 0, .ref m5, .ref m6, .ref m7, .ref m8, .int 0, .ref m10, .ref m11, .ref m12, .ref m13, .ref m14, .int 0, .int 0, .int 0, .ref m18, .int 0, .int 0, .int 0, .int 0, .int 0, .int 0, .int 0, .int 0, .int 0, .int 0, .int 0, .int 0, .int 0, .int 0, .int 0, .ref m34, .ref m35, .ref m36, .ref m37, .int 0]))]) [0] (by decide) rfl
      have hK9 := hK.sub (tys' := []) [] rfl
      exact W.iret (v := 0) hx hb hr (fun t ht hW => ⟨⟨0, (), rfl, trivial, by rw [ht]; exact hP9, va_K.moved hW.alike hK9, hD9⟩, hS.F ht⟩) hS.2.2 dX8_byteAt_37
    · exact absurd (Int32.not_lt.mp c_1) c_2

set_option maxHeartbeats 4000000 in
set_option maxRecDepth 100000 in
theorem m_thrown (l : Launch) (dC : Nat → ClassId) (dI : Nat → Nat → Nat) (mo m1 m2 m5 m6 m7 m8 m10 m11 m12 m13 m14 m18 m34 m35 m36 m37 : Nat)  (sz : Nat) : Met l yX8_thrown wsX8_thrown ({ frames := 0, cells := 0, slots := 0, locals := 0 }) (va_Pc [.ref mo] (fun U => U.heap.size = sz ∧ va_P (dC, dI) vwCl [(mo, .inr (6, [.int 1, .ref m1, .ref m2, .int 0, .int 0, .ref m5, .ref m6, .ref m7, .ref m8, .int 0, .ref m10, .ref m11, .ref m12, .ref m13, .ref m14, .int 0, .int 0, .int 0, .ref m18, .int 0, .int 0, .int 0, .int 0, .int 0, .int 0, .int 0, .int 0, .int 0, .int 0, .int 0, .int 0, .int 0, .int 0, .int 0, .ref m34, .ref m35, .ref m36, .ref m37, .int 0]))] U.heap ∧ va_K (dC, dI) vwCl [] U ∧ va_D (fun _ => True) [(mo, .inr (6, [.int 1, .ref m1, .ref m2, .int 0, .int 0, .ref m5, .ref m6, .ref m7, .ref m8, .int 0, .ref m10, .ref m11, .ref m12, .ref m13, .ref m14, .int 0, .int 0, .int 0, .ref m18, .int 0, .int 0, .int 0, .int 0, .int 0, .int 0, .int 0, .int 0, .int 0, .int 0, .int 0, .int 0, .int 0, .int 0, .int 0, .ref m34, .ref m35, .ref m36, .ref m37, .int 0]))])) (va_Qi (fun (r : Int32) (_ : Unit) => r = 1) (fun (_ : Unit) (_ : State) => True) (va_A [(mo, .inr (6, [.int 1, .ref m1, .ref m2, .int 0, .int 0, .ref m5, .ref m6, .ref m7, .ref m8, .int 0, .ref m10, .ref m11, .ref m12, .ref m13, .ref m14, .int 0, .int 0, .int 0, .ref m18, .int 0, .int 0, .int 0, .int 0, .int 0, .int 0, .int 0, .int 0, .int 0, .int 0, .int 0, .int 0, .int 0, .int 0, .int 0, .ref m34, .ref m35, .ref m36, .ref m37, .int 0]))] sz)) 0 0 (va_A [(mo, .inr (6, [.int 1, .ref m1, .ref m2, .int 0, .int 0, .ref m5, .ref m6, .ref m7, .ref m8, .int 0, .ref m10, .ref m11, .ref m12, .ref m13, .ref m14, .int 0, .int 0, .int 0, .ref m18, .int 0, .int 0, .int 0, .int 0, .int 0, .int 0, .int 0, .int 0, .int 0, .int 0, .int 0, .int 0, .int 0, .int 0, .int 0, .ref m34, .ref m35, .ref m36, .ref m37, .int 0]))] sz) := by
  refine Met.ofW (cc := cX8_thrown) (maxL := 1) (ret := (some .int)) (by decide) rfl ?_
  intro p e s m args below meth c s₁ B hml hv
  obtain ⟨rfl, hsz, hP, hK, hD0⟩ := hv
  have hx := B.exec
  have hb := B.bytes
  have hr := B.returns
  have hts := atoms_spec (ws := wsX8_thrown) B.pre
  have hown : s.vm.findClass RX8 = some m.cls := findClass_of_methodNamed B.named
  have hlocks := B.notSynchronized
  subst hsz
  have hD := hD0.self (sz := s.heap.size)
  generalize hAe : va_A [(mo, .inr (6, [.int 1, .ref m1, .ref m2, .int 0, .int 0, .ref m5, .ref m6, .ref m7, .ref m8, .int 0, .ref m10, .ref m11, .ref m12, .ref m13, .ref m14, .int 0, .int 0, .int 0, .ref m18, .int 0, .int 0, .int 0, .int 0, .int 0, .int 0, .int 0, .int 0, .int 0, .int 0, .int 0, .int 0, .int 0, .int 0, .int 0, .ref m34, .ref m35, .ref m36, .ref m37, .int 0]))] s.heap.size = A at hD ⊢
  have hA : ∀ q : Nat, s.heap.size ≤ q → A q := fun q h => by rw [← hAe]; exact Or.inr h
  have hS : va_S A s.heap s.heap [] := va_S.rf
  have hP : va_P (dC, dI) vwCl [(mo, .inr (6, [.int 1, .ref m1, .ref m2, .int 0, .int 0, .ref m5, .ref m6, .ref m7, .ref m8, .int 0, .ref m10, .ref m11, .ref m12, .ref m13, .ref m14, .int 0, .int 0, .int 0, .ref m18, .int 0, .int 0, .int 0, .int 0, .int 0, .int 0, .int 0, .int 0, .int 0, .int 0, .int 0, .int 0, .int 0, .int 0, .int 0, .ref m34, .ref m35, .ref m36, .ref m37, .int 0]))] s.heap := hP
  have hl := lv_entry ([.ref mo]) (n := 1) (Nat.le_of_ble_eq_true rfl)
  rw [lg_entry_eq]
  generalize (lg_sl ([.ref mo]) ++ List.replicate (1 - (lg_sl ([.ref mo])).length) Slot.unset).toArray = ls at hl ⊢
  have hl : lv_has ls 1 [(0, .ref mo)] := hl
  have iX8 : ∀ w ∈ wsX80, w ∈ wsX8_thrown := by decide +kernel
  refine lv_aload_n hx hb dX8_thrown_0 rfl (lv_at hl 0 rfl) ?_
  refine va_get (D := (dC, dI)) (ci := 6) (v := .int 1) (C := RX8) (T := TX8) (N := 39) hx hb hts iX8 hown hK hP 0 rfl rfl 0 (by decide) (hts (.fieldLink RX8 7 "BatchTransferModel" "thrownCode" "I") (by decide +kernel)) (fun _ h9 => h9) rfl dX8_thrown_1 ?_
  exact W.iret (v := 1) hx hb hr (fun t ht hW => ⟨⟨1, (), rfl, rfl, trivial⟩, hS.F ht⟩) hS.2.2 dX8_thrown_4
