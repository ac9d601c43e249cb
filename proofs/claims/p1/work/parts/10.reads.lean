set_option maxHeartbeats 4000000 in
set_option maxRecDepth 100000 in
theorem k_isOn (l : Launch) (dC : Nat → ClassId) (dI : Nat → Nat → Nat) (bt ta wi se re : Nat) (eb sn sp sa sm : Int32) (wb : Nat) (wl : Int32) (sz : Nat) : Met l yX7_isOn wsX7_isOn ({ frames := 0, cells := 0, slots := 0, locals := 0 }) (va_Pc [.ref bt] (fun U => U.heap.size = sz ∧ va_P (dC, dI) vwCl [(bt, .inr (5, [.ref ta, .ref wi, .ref se, .ref re, .int eb, .int sn, .int sp, .int sa, .int sm])), (wi, .inr (4, [.ref wb, .int wl]))] U.heap ∧ va_K (dC, dI) vwCl [] U ∧ va_D (fun _ => True) [(bt, .inr (5, [.ref ta, .ref wi, .ref se, .ref re, .int eb, .int sn, .int sp, .int sa, .int sm])), (wi, .inr (4, [.ref wb, .int wl]))])) (va_Qi (fun (r : Int32) (_ : Unit) => (wl ≤ 0 → r = 0) ∧ (¬ wl ≤ 0 → r = 1)) (fun (_ : Unit) (t : State) => va_P (dC, dI) vwCl [(bt, .inr (5, [.ref ta, .ref wi, .ref se, .ref re, .int eb, .int sn, .int sp, .int sa, .int sm])), (wi, .inr (4, [.ref wb, .int wl]))] t.heap ∧ va_K (dC, dI) vwCl [] t ∧ va_D (va_A [(bt, .inr (5, [.ref ta, .ref wi, .ref se, .ref re, .int eb, .int sn, .int sp, .int sa, .int sm])), (wi, .inr (4, [.ref wb, .int wl]))] sz) [(bt, .inr (5, [.ref ta, .ref wi, .ref se, .ref re, .int eb, .int sn, .int sp, .int sa, .int sm])), (wi, .inr (4, [.ref wb, .int wl]))]) (va_A [(bt, .inr (5, [.ref ta, .ref wi, .ref se, .ref re, .int eb, .int sn, .int sp, .int sa, .int sm])), (wi, .inr (4, [.ref wb, .int wl]))] sz)) 0 0 (va_A [(bt, .inr (5, [.ref ta, .ref wi, .ref se, .ref re, .int eb, .int sn, .int sp, .int sa, .int sm])), (wi, .inr (4, [.ref wb, .int wl]))] sz) := by
  refine Met.ofW (cc := cX7_isOn) (maxL := 1) (ret := (some .boolean)) (by decide) rfl ?_
  intro p e s m args below meth c s₁ B hml hv
  obtain ⟨rfl, hsz, hP, hK, hD0⟩ := hv
  have hx := B.exec
  have hb := B.bytes
  have hr := B.returns
  have hts := atoms_spec (ws := wsX7_isOn) B.pre
  have hown : s.vm.findClass RX7 = some m.cls := findClass_of_methodNamed B.named
  have hlocks := B.notSynchronized
  subst hsz
  have hD := hD0.self (sz := s.heap.size)
  generalize hAe : va_A [(bt, .inr (5, [.ref ta, .ref wi, .ref se, .ref re, .int eb, .int sn, .int sp, .int sa, .int sm])), (wi, .inr (4, [.ref wb, .int wl]))] s.heap.size = A at hD ⊢
  have hA : ∀ q : Nat, s.heap.size ≤ q → A q := fun q h => by rw [← hAe]; exact Or.inr h
  have hS : va_S A s.heap s.heap [] := va_S.rf
  have hP : va_P (dC, dI) vwCl [(bt, .inr (5, [.ref ta, .ref wi, .ref se, .ref re, .int eb, .int sn, .int sp, .int sa, .int sm])), (wi, .inr (4, [.ref wb, .int wl]))] s.heap := hP
  have hl := lv_entry ([.ref bt]) (n := 1) (Nat.le_of_ble_eq_true rfl)
  rw [lg_entry_eq]
  generalize (lg_sl ([.ref bt]) ++ List.replicate (1 - (lg_sl ([.ref bt])).length) Slot.unset).toArray = ls at hl ⊢
  have hl : lv_has ls 1 [(0, .ref bt)] := hl
  have iX6 : ∀ w ∈ wsX60, w ∈ wsX7_isOn := by decide +kernel
  have iX7 : ∀ w ∈ wsX70, w ∈ wsX7_isOn := by decide +kernel
  refine lv_aload_n hx hb dX7_isOn_0 rfl (lv_at hl 0 rfl) ?_
  refine va_get (D := (dC, dI)) (ci := 5) (v := .ref wi) (C := RX7) (T := TX7) (N := 9) hx hb hts iX7 hown hK hP 0 rfl rfl 1 (by decide) (hts (.fieldLink RX7 19 "BatchTransfer" "wire" "LBatchTransfer$Wire;") (by decide +kernel)) (fun _ h9 => h9) rfl dX7_isOn_1 ?_
  refine va_get (D := (dC, dI)) (ci := 4) (v := .int wl) (C := RX6) (T := TX6) (N := 2) hx hb hts iX6 hown hK hP 1 rfl rfl 1 (by decide) (hts (.fieldLink RX7 124 "BatchTransfer$Wire" "length" "I") (by decide +kernel)) (fun _ h9 => h9) rfl dX7_isOn_4 ?_
  refine lv_if_le (tgt := 14) hx hb dX7_isOn_7 (by decide) (fun c_1 => ?_) (fun c_1 => ?_)
  · refine lv_iconst (v := 0) hx hb dX7_isOn_14 (by decide) ?_
    have hP9 := hP.sub (ws' := [(bt, .inr (5, [.ref ta, .ref wi, .ref se, .ref re, .int eb, .int sn, .int sp, .int sa, .int sm])), (wi, .inr (4, [.ref wb, .int wl]))]) [0, 1] rfl
    have hD9 := hD.sub (ws' := [(bt, .inr (5, [.ref ta, .ref wi, .ref se, .ref re, .int eb, .int sn, .int sp, .int sa, .int sm])), (wi, .inr (4, [.ref wb, .int wl]))]) [0, 1] (by decide) rfl
    have hK9 := hK.sub (tys' := []) [] rfl
    exact W.zret (v := 0) hx hb hr rfl (fun t ht hW => ⟨⟨0, (), rfl, ⟨fun _ => rfl, fun h => absurd c_1 h⟩, by rw [ht]; exact hP9, va_K.moved hW.alike hK9, hD9⟩, hS.F ht⟩) hS.2.2 dX7_isOn_15
  · refine lv_iconst (v := 1) hx hb dX7_isOn_10 (by decide) ?_
    refine lv_goto (tgt := 15) hx hb dX7_isOn_11 (by decide) ?_
    have hP9 := hP.sub (ws' := [(bt, .inr (5, [.ref ta, .ref wi, .ref se, .ref re, .int eb, .int sn, .int sp, .int sa, .int sm])), (wi, .inr (4, [.ref wb, .int wl]))]) [0, 1] rfl
    have hD9 := hD.sub (ws' := [(bt, .inr (5, [.ref ta, .ref wi, .ref se, .ref re, .int eb, .int sn, .int sp, .int sa, .int sm])), (wi, .inr (4, [.ref wb, .int wl]))]) [0, 1] (by decide) rfl
    have hK9 := hK.sub (tys' := []) [] rfl
    exact W.zret (v := 1) hx hb hr rfl (fun t ht hW => ⟨⟨1, (), rfl, ⟨fun h => absurd h c_1, fun _ => rfl⟩, by rw [ht]; exact hP9, va_K.moved hW.alike hK9, hD9⟩, hS.F ht⟩) hS.2.2 dX7_isOn_15

set_option maxHeartbeats 4000000 in
set_option maxRecDepth 100000 in
theorem k_has (l : Launch) (dC : Nat → ClassId) (dI : Nat → Nat → Nat) (fl fn fk fd fs fz : Nat) (cn i0 : Int32) (sz : Nat) : Met l yX2_has wsX2_has ({ frames := 0, cells := 0, slots := 0, locals := 0 }) (va_Pc [.ref fl, .int i0] (fun U => U.heap.size = sz ∧ va_P (dC, dI) vwCl [(fl, .inr (2, [.ref fn, .ref fk, .ref fd, .ref fs, .ref fz, .int cn]))] U.heap ∧ va_K (dC, dI) vwCl [] U ∧ va_D (fun _ => True) [(fl, .inr (2, [.ref fn, .ref fk, .ref fd, .ref fs, .ref fz, .int cn]))])) (va_Qi (fun (r : Int32) (_ : Unit) => (i0 < 0 → r = 0) ∧ (cn ≤ i0 → r = 0) ∧ (¬ i0 < 0 → ¬ cn ≤ i0 → r = 1)) (fun (_ : Unit) (t : State) => va_P (dC, dI) vwCl [(fl, .inr (2, [.ref fn, .ref fk, .ref fd, .ref fs, .ref fz, .int cn]))] t.heap ∧ va_K (dC, dI) vwCl [] t ∧ va_D (va_A [(fl, .inr (2, [.ref fn, .ref fk, .ref fd, .ref fs, .ref fz, .int cn]))] sz) [(fl, .inr (2, [.ref fn, .ref fk, .ref fd, .ref fs, .ref fz, .int cn]))]) (va_A [(fl, .inr (2, [.ref fn, .ref fk, .ref fd, .ref fs, .ref fz, .int cn]))] sz)) 0 0 (va_A [(fl, .inr (2, [.ref fn, .ref fk, .ref fd, .ref fs, .ref fz, .int cn]))] sz) := by
  refine Met.ofW (cc := cX2_has) (maxL := 2) (ret := (some .boolean)) (by decide) rfl ?_
  intro p e s m args below meth c s₁ B hml hv
  obtain ⟨rfl, hsz, hP, hK, hD0⟩ := hv
  have hx := B.exec
  have hb := B.bytes
  have hr := B.returns
  have hts := atoms_spec (ws := wsX2_has) B.pre
  have hown : s.vm.findClass RX2 = some m.cls := findClass_of_methodNamed B.named
  have hlocks := B.notSynchronized
  subst hsz
  have hD := hD0.self (sz := s.heap.size)
  generalize hAe : va_A [(fl, .inr (2, [.ref fn, .ref fk, .ref fd, .ref fs, .ref fz, .int cn]))] s.heap.size = A at hD ⊢
  have hA : ∀ q : Nat, s.heap.size ≤ q → A q := fun q h => by rw [← hAe]; exact Or.inr h
  have hS : va_S A s.heap s.heap [] := va_S.rf
  have hP : va_P (dC, dI) vwCl [(fl, .inr (2, [.ref fn, .ref fk, .ref fd, .ref fs, .ref fz, .int cn]))] s.heap := hP
  have hl := lv_entry ([.ref fl, .int i0]) (n := 2) (Nat.le_of_ble_eq_true rfl)
  rw [lg_entry_eq]
  generalize (lg_sl ([.ref fl, .int i0]) ++ List.replicate (2 - (lg_sl ([.ref fl, .int i0])).length) Slot.unset).toArray = ls at hl ⊢
  have hl : lv_has ls 2 [(0, .ref fl), (1, .int i0)] := hl
  have iX2 : ∀ w ∈ wsX20, w ∈ wsX2_has := by decide +kernel
  refine lv_iload_n hx hb dX2_has_0 rfl (lv_at hl 1 rfl) ?_
  refine lv_if_lt (tgt := 16) hx hb dX2_has_1 (by decide) (fun c_1 => ?_) (fun c_1 => ?_)
  · refine lv_iconst (v := 0) hx hb dX2_has_16 (by decide) ?_
    have hP9 := hP.sub (ws' := [(fl, .inr (2, [.ref fn, .ref fk, .ref fd, .ref fs, .ref fz, .int cn]))]) [0] rfl
    have hD9 := hD.sub (ws' := [(fl, .inr (2, [.ref fn, .ref fk, .ref fd, .ref fs, .ref fz, .int cn]))]) [0] (by decide) rfl
    have hK9 := hK.sub (tys' := []) [] rfl
    exact W.zret (v := 0) hx hb hr rfl (fun t ht hW => ⟨⟨0, (), rfl, ⟨fun _ => rfl, fun _ => rfl, fun h => absurd c_1 h⟩, by rw [ht]; exact hP9, va_K.moved hW.alike hK9, hD9⟩, hS.F ht⟩) hS.2.2 dX2_has_17
  · refine lv_iload_n hx hb dX2_has_4 rfl (lv_at hl 1 rfl) ?_
    refine lv_aload_n hx hb dX2_has_5 rfl (lv_at hl 0 rfl) ?_
    refine va_get (D := (dC, dI)) (ci := 2) (v := .int cn) (C := RX2) (T := TX2) (N := 6) hx hb hts iX2 hown hK hP 0 rfl rfl 5 (by decide) (hts (.fieldLink RX2 28 "BatchTransfer$Shelf" "count" "I") (by decide +kernel)) (fun _ h9 => h9) rfl dX2_has_6 ?_
    refine lv_icmp_ge (tgt := 16) hx hb dX2_has_9 (by decide) (fun c_2 => ?_) (fun c_2 => ?_)
    · refine lv_iconst (v := 0) hx hb dX2_has_16 (by decide) ?_
      have hP9 := hP.sub (ws' := [(fl, .inr (2, [.ref fn, .ref fk, .ref fd, .ref fs, .ref fz, .int cn]))]) [0] rfl
      have hD9 := hD.sub (ws' := [(fl, .inr (2, [.ref fn, .ref fk, .ref fd, .ref fs, .ref fz, .int cn]))]) [0] (by decide) rfl
      have hK9 := hK.sub (tys' := []) [] rfl
      exact W.zret (v := 0) hx hb hr rfl (fun t ht hW => ⟨⟨0, (), rfl, ⟨fun _ => rfl, fun _ => rfl, fun _ h => absurd c_2 h⟩, by rw [ht]; exact hP9, va_K.moved hW.alike hK9, hD9⟩, hS.F ht⟩) hS.2.2 dX2_has_17
    · refine lv_iconst (v := 1) hx hb dX2_has_12 (by decide) ?_
      refine lv_goto (tgt := 17) hx hb dX2_has_13 (by decide) ?_
      have hP9 := hP.sub (ws' := [(fl, .inr (2, [.ref fn, .ref fk, .ref fd, .ref fs, .ref fz, .int cn]))]) [0] rfl
      have hD9 := hD.sub (ws' := [(fl, .inr (2, [.ref fn, .ref fk, .ref fd, .ref fs, .ref fz, .int cn]))]) [0] (by decide) rfl
      have hK9 := hK.sub (tys' := []) [] rfl
      exact W.zret (v := 1) hx hb hr rfl (fun t ht hW => ⟨⟨1, (), rfl, ⟨fun h => absurd h c_1, fun h => absurd h c_2, fun _ _ => rfl⟩, by rw [ht]; exact hP9, va_K.moved hW.alike hK9, hD9⟩, hS.F ht⟩) hS.2.2 dX2_has_17

set_option maxHeartbeats 4000000 in
set_option maxRecDepth 100000 in
theorem k_may (l : Launch) (dC : Nat → ClassId) (dI : Nat → Nat → Nat) (bt ta wi se re : Nat) (eb sn sp sa sm : Int32) (fl un fn fk fd fs fz wb : Nat) (s0 s1 s2 s4 s6 s7 s8 s9 cn wl : Int32) (sz : Nat) : Met l yX7_mayAddFile wsX7_mayAddFile ({ frames := 1, cells := 0, slots := 0, locals := 20 }) (va_Pc [.ref bt] (fun U => U.heap.size = sz ∧ va_P (dC, dI) vwCl [(bt, .inr (5, [.ref ta, .ref wi, .ref se, .ref re, .int eb, .int sn, .int sp, .int sa, .int sm])), (se, .inr (1, [.int s0, .int s1, .int s2, .ref fl, .int s4, .ref un, .int s6, .int s7, .int s8, .int s9])), (fl, .inr (2, [.ref fn, .ref fk, .ref fd, .ref fs, .ref fz, .int cn])), (wi, .inr (4, [.ref wb, .int wl]))] U.heap ∧ va_K (dC, dI) vwCl [] U ∧ va_D (fun _ => True) [(bt, .inr (5, [.ref ta, .ref wi, .ref se, .ref re, .int eb, .int sn, .int sp, .int sa, .int sm])), (se, .inr (1, [.int s0, .int s1, .int s2, .ref fl, .int s4, .ref un, .int s6, .int s7, .int s8, .int s9])), (fl, .inr (2, [.ref fn, .ref fk, .ref fd, .ref fs, .ref fz, .int cn])), (wi, .inr (4, [.ref wb, .int wl]))])) (va_Qi (fun (r : Int32) (_ : Unit) => (8 ≤ cn → r = 0) ∧ (¬ wl ≤ 0 → r = 0) ∧ (¬ 8 ≤ cn → wl ≤ 0 → r = 1)) (fun (_ : Unit) (t : State) => va_P (dC, dI) vwCl [(bt, .inr (5, [.ref ta, .ref wi, .ref se, .ref re, .int eb, .int sn, .int sp, .int sa, .int sm])), (se, .inr (1, [.int s0, .int s1, .int s2, .ref fl, .int s4, .ref un, .int s6, .int s7, .int s8, .int s9])), (fl, .inr (2, [.ref fn, .ref fk, .ref fd, .ref fs, .ref fz, .int cn])), (wi, .inr (4, [.ref wb, .int wl]))] t.heap ∧ va_K (dC, dI) vwCl [] t ∧ va_D (va_A [(bt, .inr (5, [.ref ta, .ref wi, .ref se, .ref re, .int eb, .int sn, .int sp, .int sa, .int sm])), (se, .inr (1, [.int s0, .int s1, .int s2, .ref fl, .int s4, .ref un, .int s6, .int s7, .int s8, .int s9])), (fl, .inr (2, [.ref fn, .ref fk, .ref fd, .ref fs, .ref fz, .int cn])), (wi, .inr (4, [.ref wb, .int wl]))] sz) [(bt, .inr (5, [.ref ta, .ref wi, .ref se, .ref re, .int eb, .int sn, .int sp, .int sa, .int sm])), (se, .inr (1, [.int s0, .int s1, .int s2, .ref fl, .int s4, .ref un, .int s6, .int s7, .int s8, .int s9])), (fl, .inr (2, [.ref fn, .ref fk, .ref fd, .ref fs, .ref fz, .int cn])), (wi, .inr (4, [.ref wb, .int wl]))]) (va_A [(bt, .inr (5, [.ref ta, .ref wi, .ref se, .ref re, .int eb, .int sn, .int sp, .int sa, .int sm])), (se, .inr (1, [.int s0, .int s1, .int s2, .ref fl, .int s4, .ref un, .int s6, .int s7, .int s8, .int s9])), (fl, .inr (2, [.ref fn, .ref fk, .ref fd, .ref fs, .ref fz, .int cn])), (wi, .inr (4, [.ref wb, .int wl]))] sz)) 0 0 (va_A [(bt, .inr (5, [.ref ta, .ref wi, .ref se, .ref re, .int eb, .int sn, .int sp, .int sa, .int sm])), (se, .inr (1, [.int s0, .int s1, .int s2, .ref fl, .int s4, .ref un, .int s6, .int s7, .int s8, .int s9])), (fl, .inr (2, [.ref fn, .ref fk, .ref fd, .ref fs, .ref fz, .int cn])), (wi, .inr (4, [.ref wb, .int wl]))] sz) := by
  refine Met.ofW (cc := cX7_mayAddFile) (maxL := 1) (ret := (some .boolean)) (by decide) rfl ?_
  intro p e s m args below meth c s₁ B hml hv
  obtain ⟨rfl, hsz, hP, hK, hD0⟩ := hv
  have hx := B.exec
  have hb := B.bytes
  have hr := B.returns
  have hts := atoms_spec (ws := wsX7_mayAddFile) B.pre
  have hown : s.vm.findClass RX7 = some m.cls := findClass_of_methodNamed B.named
  have hlocks := B.notSynchronized
  subst hsz
  have hD := hD0.self (sz := s.heap.size)
  generalize hAe : va_A [(bt, .inr (5, [.ref ta, .ref wi, .ref se, .ref re, .int eb, .int sn, .int sp, .int sa, .int sm])), (se, .inr (1, [.int s0, .int s1, .int s2, .ref fl, .int s4, .ref un, .int s6, .int s7, .int s8, .int s9])), (fl, .inr (2, [.ref fn, .ref fk, .ref fd, .ref fs, .ref fz, .int cn])), (wi, .inr (4, [.ref wb, .int wl]))] s.heap.size = A at hD ⊢
  have hA : ∀ q : Nat, s.heap.size ≤ q → A q := fun q h => by rw [← hAe]; exact Or.inr h
  have hS : va_S A s.heap s.heap [] := va_S.rf
  have hP : va_P (dC, dI) vwCl [(bt, .inr (5, [.ref ta, .ref wi, .ref se, .ref re, .int eb, .int sn, .int sp, .int sa, .int sm])), (se, .inr (1, [.int s0, .int s1, .int s2, .ref fl, .int s4, .ref un, .int s6, .int s7, .int s8, .int s9])), (fl, .inr (2, [.ref fn, .ref fk, .ref fd, .ref fs, .ref fz, .int cn])), (wi, .inr (4, [.ref wb, .int wl]))] s.heap := hP
  have hl := lv_entry ([.ref bt]) (n := 1) (Nat.le_of_ble_eq_true rfl)
  rw [lg_entry_eq]
  generalize (lg_sl ([.ref bt]) ++ List.replicate (1 - (lg_sl ([.ref bt])).length) Slot.unset).toArray = ls at hl ⊢
  have hl : lv_has ls 1 [(0, .ref bt)] := hl
  have iX1 : ∀ w ∈ wsX10, w ∈ wsX7_mayAddFile := by decide +kernel
  have iX2 : ∀ w ∈ wsX20, w ∈ wsX7_mayAddFile := by decide +kernel
  have iX7 : ∀ w ∈ wsX70, w ∈ wsX7_mayAddFile := by decide +kernel
  refine lv_aload_n hx hb dX7_mayAddFile_0 rfl (lv_at hl 0 rfl) ?_
  refine va_get (D := (dC, dI)) (ci := 5) (v := .ref se) (C := RX7) (T := TX7) (N := 9) hx hb hts iX7 hown hK hP 0 rfl rfl 2 (by decide) (hts (.fieldLink RX7 26 "BatchTransfer" "sender" "LBatchTransfer$Sender;") (by decide +kernel)) (fun _ h9 => h9) rfl dX7_mayAddFile_1 ?_
  refine va_get (D := (dC, dI)) (ci := 1) (v := .ref fl) (C := RX1) (T := TX1) (N := 10) hx hb hts iX1 hown hK hP 1 rfl rfl 3 (by decide) (hts (.fieldLink RX7 53 "BatchTransfer$Sender" "files" "LBatchTransfer$Shelf;") (by decide +kernel)) (fun _ h9 => h9) rfl dX7_mayAddFile_4 ?_
  refine va_get (D := (dC, dI)) (ci := 2) (v := .int cn) (C := RX2) (T := TX2) (N := 6) hx hb hts iX2 hown hK hP 2 rfl rfl 5 (by decide) (hts (.fieldLink RX7 73 "BatchTransfer$Shelf" "count" "I") (by decide +kernel)) (fun _ h9 => h9) rfl dX7_mayAddFile_7 ?_
  refine lv_bipush (v := 8) hx hb dX7_mayAddFile_10 (by decide) ?_
  refine lv_icmp_ge (tgt := 26) hx hb dX7_mayAddFile_12 (by decide) (fun c_1 => ?_) (fun c_1 => ?_)
  · refine lv_iconst (v := 0) hx hb dX7_mayAddFile_26 (by decide) ?_
    have hP9 := hP.sub (ws' := [(bt, .inr (5, [.ref ta, .ref wi, .ref se, .ref re, .int eb, .int sn, .int sp, .int sa, .int sm])), (se, .inr (1, [.int s0, .int s1, .int s2, .ref fl, .int s4, .ref un, .int s6, .int s7, .int s8, .int s9])), (fl, .inr (2, [.ref fn, .ref fk, .ref fd, .ref fs, .ref fz, .int cn])), (wi, .inr (4, [.ref wb, .int wl]))]) [0, 1, 2, 3] rfl
    have hD9 := hD.sub (ws' := [(bt, .inr (5, [.ref ta, .ref wi, .ref se, .ref re, .int eb, .int sn, .int sp, .int sa, .int sm])), (se, .inr (1, [.int s0, .int s1, .int s2, .ref fl, .int s4, .ref un, .int s6, .int s7, .int s8, .int s9])), (fl, .inr (2, [.ref fn, .ref fk, .ref fd, .ref fs, .ref fz, .int cn])), (wi, .inr (4, [.ref wb, .int wl]))]) [0, 1, 2, 3] (by decide) rfl
    have hK9 := hK.sub (tys' := []) [] rfl
    exact W.zret (v := 0) hx hb hr rfl (fun t ht hW => ⟨⟨0, (), rfl, ⟨fun _ => rfl, fun _ => rfl, fun h => absurd c_1 h⟩, by rw [ht]; exact hP9, va_K.moved hW.alike hK9, hD9⟩, hS.F ht⟩) hS.2.2 dX7_mayAddFile_27
  · refine lv_aload_n hx hb dX7_mayAddFile_15 rfl (lv_at hl 0 rfl) ?_
    have hPc := hP.sub (ws' := [(bt, .inr (5, [.ref ta, .ref wi, .ref se, .ref re, .int eb, .int sn, .int sp, .int sa, .int sm])), (wi, .inr (4, [.ref wb, .int wl]))]) [0, 3] rfl
    have hDc := hD.sub (ws' := [(bt, .inr (5, [.ref ta, .ref wi, .ref se, .ref re, .int eb, .int sn, .int sp, .int sa, .int sm])), (wi, .inr (4, [.ref wb, .int wl]))]) [0, 3] (by decide) rfl
    have hKc := hK.sub (tys' := []) [] rfl
    have hFc := va_free (wc := [(bt, .inr (5, [.ref ta, .ref wi, .ref se, .ref re, .int eb, .int sn, .int sp, .int sa, .int sm])), (wi, .inr (4, [.ref wb, .int wl]))]) hD hS hA [0, 3] rfl
    refine va_calli (va_runV (As := []) (rest := []) ⟨hx, hb, hml, hown, hts⟩ (k_isOn l dC dI bt ta wi se re eb sn sp sa sm wb wl s.heap.size) (cwV 0 hts gX7_mayAddFile_X7_isOn rfl rfl rfl (by decide +kernel) ⟨Nat.le_of_ble_eq_true rfl, Nat.le_of_ble_eq_true rfl⟩) ⟨fun a U g mk q => by obtain ⟨q0, q1, qP, qK, qD⟩ := q; exact ⟨q0, q1, qP, va_K.moved (u := U) (U := U.calling g mk a) (Vm.Alike.refl U.vm) qK, qD⟩, va_recv hKc hPc (ci := 5) (q0 := 0) rfl rfl, fun U hU hW => ⟨rfl, by rw [hU], by rw [hU]; exact hPc, va_K.moved hW.alike hKc, hDc.weaken (fun _ _ _ _ => trivial)⟩⟩ rfl rfl hl.1 rfl (lv_room (Nat.le_of_ble_eq_true rfl)) dX7_mayAddFile_16 ⟨show 0 + 0 ≤ 0 by omega, show 0 + 0 ≤ 0 by omega⟩) hS (fun q _ h => hFc q h) hFc (fun r_2 u t H1 locs ht hvm hw hB hz1 hk1 hS => ?_)
    obtain ⟨hP1, hK1, hD1⟩ := hB
    rw [ht] at hP1
    have hK1 := va_K.moved hvm.symm hK1
    try dsimp only at hw
    obtain ⟨hP, hD⟩ := va_join (wr := [(se, .inr (1, [.int s0, .int s1, .int s2, .ref fl, .int s4, .ref un, .int s6, .int s7, .int s8, .int s9])), (fl, .inr (2, [.ref fn, .ref fk, .ref fd, .ref fs, .ref fz, .int cn]))]) (w1 := [(bt, .inr (5, [.ref ta, .ref wi, .ref se, .ref re, .int eb, .int sn, .int sp, .int sa, .int sm])), (wi, .inr (4, [.ref wb, .int wl]))]) hP hD [0, 3] [1, 2] rfl rfl (by decide) (by decide) hk1 hFc hP1 hD1
    have hK := (hK.sub (tys' := []) [] rfl).app hK1
    generalize H1 = H at hP hS ⊢
    have hK : va_K (dC, dI) vwCl [] s := hK
    have hP : va_P (dC, dI) vwCl [(se, .inr (1, [.int s0, .int s1, .int s2, .ref fl, .int s4, .ref un, .int s6, .int s7, .int s8, .int s9])), (fl, .inr (2, [.ref fn, .ref fk, .ref fd, .ref fs, .ref fz, .int cn])), (bt, .inr (5, [.ref ta, .ref wi, .ref se, .ref re, .int eb, .int sn, .int sp, .int sa, .int sm])), (wi, .inr (4, [.ref wb, .int wl]))] H := hP
    have hD : va_D A [(se, .inr (1, [.int s0, .int s1, .int s2, .ref fl, .int s4, .ref un, .int s6, .int s7, .int s8, .int s9])), (fl, .inr (2, [.ref fn, .ref fk, .ref fd, .ref fs, .ref fz, .int cn])), (bt, .inr (5, [.ref ta, .ref wi, .ref se, .ref re, .int eb, .int sn, .int sp, .int sa, .int sm])), (wi, .inr (4, [.ref wb, .int wl]))] := hD
    refine lv_if_ne (tgt := 26) hx hb dX7_mayAddFile_19 (by decide) (fun c_3 => ?_) (fun c_3 => ?_)
    · refine lv_iconst (v := 0) hx hb dX7_mayAddFile_26 (by decide) ?_
      have hP9 := hP.sub (ws' := [(bt, .inr (5, [.ref ta, .ref wi, .ref se, .ref re, .int eb, .int sn, .int sp, .int sa, .int sm])), (se, .inr (1, [.int s0, .int s1, .int s2, .ref fl, .int s4, .ref un, .int s6, .int s7, .int s8, .int s9])), (fl, .inr (2, [.ref fn, .ref fk, .ref fd, .ref fs, .ref fz, .int cn])), (wi, .inr (4, [.ref wb, .int wl]))]) [2, 0, 1, 3] rfl
      have hD9 := hD.sub (ws' := [(bt, .inr (5, [.ref ta, .ref wi, .ref se, .ref re, .int eb, .int sn, .int sp, .int sa, .int sm])), (se, .inr (1, [.int s0, .int s1, .int s2, .ref fl, .int s4, .ref un, .int s6, .int s7, .int s8, .int s9])), (fl, .inr (2, [.ref fn, .ref fk, .ref fd, .ref fs, .ref fz, .int cn])), (wi, .inr (4, [.ref wb, .int wl]))]) [2, 0, 1, 3] (by decide) rfl
      have hK9 := hK.sub (tys' := []) [] rfl
      exact W.zret (v := 0) hx hb hr rfl (fun t ht hW => ⟨⟨0, (), rfl, ⟨fun _ => rfl, fun _ => rfl, fun _ h => absurd (hw.1 h) c_3⟩, by rw [ht]; exact hP9, va_K.moved hW.alike hK9, hD9⟩, hS.F ht⟩) hS.2.2 dX7_mayAddFile_27
    · refine lv_iconst (v := 1) hx hb dX7_mayAddFile_22 (by decide) ?_
      refine lv_goto (tgt := 27) hx hb dX7_mayAddFile_23 (by decide) ?_
      have hP9 := hP.sub (ws' := [(bt, .inr (5, [.ref ta, .ref wi, .ref se, .ref re, .int eb, .int sn, .int sp, .int sa, .int sm])), (se, .inr (1, [.int s0, .int s1, .int s2, .ref fl, .int s4, .ref un, .int s6, .int s7, .int s8, .int s9])), (fl, .inr (2, [.ref fn, .ref fk, .ref fd, .ref fs, .ref fz, .int cn])), (wi, .inr (4, [.ref wb, .int wl]))]) [2, 0, 1, 3] rfl
      have hD9 := hD.sub (ws' := [(bt, .inr (5, [.ref ta, .ref wi, .ref se, .ref re, .int eb, .int sn, .int sp, .int sa, .int sm])), (se, .inr (1, [.int s0, .int s1, .int s2, .ref fl, .int s4, .ref un, .int s6, .int s7, .int s8, .int s9])), (fl, .inr (2, [.ref fn, .ref fk, .ref fd, .ref fs, .ref fz, .int cn])), (wi, .inr (4, [.ref wb, .int wl]))]) [2, 0, 1, 3] (by decide) rfl
      have hK9 := hK.sub (tys' := []) [] rfl
      exact W.zret (v := 1) hx hb hr rfl (fun t ht hW => ⟨⟨1, (), rfl, ⟨fun h => absurd h c_1, fun h => absurd ((hw.2 h).symm.trans c_3) (by decide), fun _ _ => rfl⟩, by rw [ht]; exact hP9, va_K.moved hW.alike hK9, hD9⟩, hS.F ht⟩) hS.2.2 dX7_mayAddFile_27
