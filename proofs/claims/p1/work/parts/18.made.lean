set_option maxHeartbeats 4000000 in
set_option maxRecDepth 100000 in
theorem k_open (l : Launch) (dC : Nat → ClassId) (dI : Nat → Nat → Nat) (fl fn fk fd fs fz : Nat) (ck cs cz : ClassId) (gk gs gz : Nat → Int32) (sz : Nat) : Met l yX2_open wsX2_open ({ frames := 0, cells := 0, slots := 0, locals := 0 }) (va_Pc [.ref fl] (fun U => U.heap.size = sz ∧ va_P (dC, dI) vwCl [(fl, .inr (2, [.ref fn, .ref fk, .ref fd, .ref fs, .ref fz, .int 0])), (fk, .inl (ck, 8, .inl gk)), (fs, .inl (cs, 8, .inl gs)), (fz, .inl (cz, 8, .inl gz))] U.heap ∧ va_K (dC, dI) vwCl [(ck, .int), (cs, .int), (cz, .int)] U ∧ va_D (fun _ => True) [(fl, .inr (2, [.ref fn, .ref fk, .ref fd, .ref fs, .ref fz, .int 0])), (fk, .inl (ck, 8, .inl gk)), (fs, .inl (cs, 8, .inl gs)), (fz, .inl (cz, 8, .inl gz))])) (va_Qv (fun (u9 : (Nat → Int32) × (Nat → Int32) × (Nat → Int32)) => match u9 with | (hk, hs, hz) => hs 0 = 0 ∧ hz 0 = 0) (fun (u9 : (Nat → Int32) × (Nat → Int32) × (Nat → Int32)) (t : State) => match u9 with | (hk, hs, hz) => va_P (dC, dI) vwCl [(fl, .inr (2, [.ref fn, .ref fk, .ref fd, .ref fs, .ref fz, .int 1])), (fk, .inl (ck, 8, .inl hk)), (fs, .inl (cs, 8, .inl hs)), (fz, .inl (cz, 8, .inl hz))] t.heap ∧ va_K (dC, dI) vwCl [(ck, .int), (cs, .int), (cz, .int)] t ∧ va_D (va_A [(fl, .inr (2, [.ref fn, .ref fk, .ref fd, .ref fs, .ref fz, .int 0])), (fk, .inl (ck, 8, .inl gk)), (fs, .inl (cs, 8, .inl gs)), (fz, .inl (cz, 8, .inl gz))] sz) [(fl, .inr (2, [.ref fn, .ref fk, .ref fd, .ref fs, .ref fz, .int 1])), (fk, .inl (ck, 8, .inl hk)), (fs, .inl (cs, 8, .inl hs)), (fz, .inl (cz, 8, .inl hz))]) (va_A [(fl, .inr (2, [.ref fn, .ref fk, .ref fd, .ref fs, .ref fz, .int 0])), (fk, .inl (ck, 8, .inl gk)), (fs, .inl (cs, 8, .inl gs)), (fz, .inl (cz, 8, .inl gz))] sz)) 0 0 (va_A [(fl, .inr (2, [.ref fn, .ref fk, .ref fd, .ref fs, .ref fz, .int 0])), (fk, .inl (ck, 8, .inl gk)), (fs, .inl (cs, 8, .inl gs)), (fz, .inl (cz, 8, .inl gz))] sz) := by
  refine Met.ofW (cc := cX2_open) (maxL := 1) (ret := none) (by decide) rfl ?_
  intro p e s m args below meth c s₁ B hml hv
  obtain ⟨rfl, hsz, hP, hK, hD0⟩ := hv
  have hx := B.exec
  have hb := B.bytes
  have hr := B.returns
  have hts := atoms_spec (ws := wsX2_open) B.pre
  have hown : s.vm.findClass RX2 = some m.cls := findClass_of_methodNamed B.named
  have hlocks := B.notSynchronized
  subst hsz
  have hD := hD0.self (sz := s.heap.size)
  generalize hAe : va_A [(fl, .inr (2, [.ref fn, .ref fk, .ref fd, .ref fs, .ref fz, .int 0])), (fk, .inl (ck, 8, .inl gk)), (fs, .inl (cs, 8, .inl gs)), (fz, .inl (cz, 8, .inl gz))] s.heap.size = A at hD ⊢
  have hA : ∀ q : Nat, s.heap.size ≤ q → A q := fun q h => by rw [← hAe]; exact Or.inr h
  have hS : va_S A s.heap s.heap [] := va_S.rf
  have hP : va_P (dC, dI) vwCl [(fl, .inr (2, [.ref fn, .ref fk, .ref fd, .ref fs, .ref fz, .int 0])), (fk, .inl (ck, 8, .inl gk)), (fs, .inl (cs, 8, .inl gs)), (fz, .inl (cz, 8, .inl gz))] s.heap := hP
  have hl := lv_entry ([.ref fl]) (n := 1) (Nat.le_of_ble_eq_true rfl)
  rw [lg_entry_eq]
  generalize (lg_sl ([.ref fl]) ++ List.replicate (1 - (lg_sl ([.ref fl])).length) Slot.unset).toArray = ls at hl ⊢
  have hl : lv_has ls 1 [(0, .ref fl)] := hl
  have iX2 : ∀ w ∈ wsX20, w ∈ wsX2_open := by decide +kernel
  refine lv_aload_n hx hb dX2_open_0 rfl (lv_at hl 0 rfl) ?_
  refine va_get (D := (dC, dI)) (ci := 2) (v := .int 0) (C := RX2) (T := TX2) (N := 6) hx hb hts iX2 hown hK hP 0 rfl rfl 5 (by decide) (hts (.fieldLink RX2 28 "BatchTransfer$Shelf" "count" "I") (by decide +kernel)) (fun _ h9 => h9) rfl dX2_open_1 ?_
  refine lv_bipush (v := 8) hx hb dX2_open_4 (by decide) ?_
  refine lv_icmp_lt (tgt := 10) hx hb dX2_open_6 (by decide) (fun c_1 => ?_) (fun c_1 => absurd (by decide) c_1)
  refine lv_aload_n hx hb dX2_open_10 rfl (lv_at hl 0 rfl) ?_
  refine va_get (D := (dC, dI)) (ci := 2) (v := .ref fs) (C := RX2) (T := TX2) (N := 6) hx hb hts iX2 hown hK hP 0 rfl rfl 3 (by decide) (hts (.fieldLink RX2 19 "BatchTransfer$Shelf" "starts" "[I") (by decide +kernel)) (fun _ h9 => h9) rfl dX2_open_11 ?_
  refine lv_aload_n hx hb dX2_open_14 rfl (lv_at hl 0 rfl) ?_
  refine va_get (D := (dC, dI)) (ci := 2) (v := .int 0) (C := RX2) (T := TX2) (N := 6) hx hb hts iX2 hown hK hP 0 rfl rfl 5 (by decide) (hts (.fieldLink RX2 28 "BatchTransfer$Shelf" "count" "I") (by decide +kernel)) (fun _ h9 => h9) rfl dX2_open_15 ?_
  refine lv_aload_n hx hb dX2_open_18 rfl (lv_at hl 0 rfl) ?_
  refine va_get (D := (dC, dI)) (ci := 2) (v := .int 0) (C := RX2) (T := TX2) (N := 6) hx hb hts iX2 hown hK hP 0 rfl rfl 5 (by decide) (hts (.fieldLink RX2 28 "BatchTransfer$Shelf" "count" "I") (by decide +kernel)) (fun _ h9 => h9) rfl dX2_open_19 ?_
  refine lv_if_ne (tgt := 29) hx hb dX2_open_22 (by decide) (fun c_2 => absurd (by decide) c_2) (fun c_2 => ?_)
  refine lv_iconst (v := 0) hx hb dX2_open_25 (by decide) ?_
  refine lv_goto (tgt := 52) hx hb dX2_open_26 (by decide) ?_
  have h_3 : vp_in (0) 8 := by unfold vp_in; decide +kernel
  refine va_iast hx hb hK hP hD hS 2 1 rfl rfl h_3 dX2_open_52 (fun H locs hP hD hS => ?_)
  obtain ⟨f_4, ef_4⟩ : ∃ g : Nat → Int32, g = upd gs (0 : Int32).toNatClampNeg 0 := ⟨_, rfl⟩
  have hP : va_P (dC, dI) vwCl [(fl, .inr (2, [.ref fn, .ref fk, .ref fd, .ref fs, .ref fz, .int 0])), (fk, .inl (ck, 8, .inl gk)), (fs, .inl (cs, 8, .inl f_4)), (fz, .inl (cz, 8, .inl gz))] H := by rw [ef_4]; exact hP
  have hD : va_D A [(fl, .inr (2, [.ref fn, .ref fk, .ref fd, .ref fs, .ref fz, .int 0])), (fk, .inl (ck, 8, .inl gk)), (fs, .inl (cs, 8, .inl f_4)), (fz, .inl (cz, 8, .inl gz))] := by rw [ef_4]; exact hD
  refine lv_aload_n hx hb dX2_open_53 rfl (lv_at hl 0 rfl) ?_
  refine va_get (D := (dC, dI)) (ci := 2) (v := .ref fz) (C := RX2) (T := TX2) (N := 6) hx hb hts iX2 hown hK hP 0 rfl rfl 4 (by decide) (hts (.fieldLink RX2 22 "BatchTransfer$Shelf" "sizes" "[I") (by decide +kernel)) (fun _ h9 => h9) rfl dX2_open_54 ?_
  refine lv_aload_n hx hb dX2_open_57 rfl (lv_at hl 0 rfl) ?_
  refine va_get (D := (dC, dI)) (ci := 2) (v := .int 0) (C := RX2) (T := TX2) (N := 6) hx hb hts iX2 hown hK hP 0 rfl rfl 5 (by decide) (hts (.fieldLink RX2 28 "BatchTransfer$Shelf" "count" "I") (by decide +kernel)) (fun _ h9 => h9) rfl dX2_open_58 ?_
  refine lv_iconst (v := 0) hx hb dX2_open_61 (by decide) ?_
  have h_5 : vp_in (0) 8 := by unfold vp_in; decide +kernel
  refine va_iast hx hb hK hP hD hS 3 2 rfl rfl h_5 dX2_open_62 (fun H locs hP hD hS => ?_)
  obtain ⟨f_6, ef_6⟩ : ∃ g : Nat → Int32, g = upd gz (0 : Int32).toNatClampNeg 0 := ⟨_, rfl⟩
  have hP : va_P (dC, dI) vwCl [(fl, .inr (2, [.ref fn, .ref fk, .ref fd, .ref fs, .ref fz, .int 0])), (fk, .inl (ck, 8, .inl gk)), (fs, .inl (cs, 8, .inl f_4)), (fz, .inl (cz, 8, .inl f_6))] H := by rw [ef_6]; exact hP
  have hD : va_D A [(fl, .inr (2, [.ref fn, .ref fk, .ref fd, .ref fs, .ref fz, .int 0])), (fk, .inl (ck, 8, .inl gk)), (fs, .inl (cs, 8, .inl f_4)), (fz, .inl (cz, 8, .inl f_6))] := by rw [ef_6]; exact hD
  refine lv_aload_n hx hb dX2_open_63 rfl (lv_at hl 0 rfl) ?_
  refine va_get (D := (dC, dI)) (ci := 2) (v := .ref fk) (C := RX2) (T := TX2) (N := 6) hx hb hts iX2 hown hK hP 0 rfl rfl 1 (by decide) (hts (.fieldLink RX2 15 "BatchTransfer$Shelf" "nameLengths" "[I") (by decide +kernel)) (fun _ h9 => h9) rfl dX2_open_64 ?_
  refine lv_aload_n hx hb dX2_open_67 rfl (lv_at hl 0 rfl) ?_
  refine va_get (D := (dC, dI)) (ci := 2) (v := .int 0) (C := RX2) (T := TX2) (N := 6) hx hb hts iX2 hown hK hP 0 rfl rfl 5 (by decide) (hts (.fieldLink RX2 28 "BatchTransfer$Shelf" "count" "I") (by decide +kernel)) (fun _ h9 => h9) rfl dX2_open_68 ?_
  refine lv_iconst (v := 0) hx hb dX2_open_71 (by decide) ?_
  have h_7 : vp_in (0) 8 := by unfold vp_in; decide +kernel
  refine va_iast hx hb hK hP hD hS 1 0 rfl rfl h_7 dX2_open_72 (fun H locs hP hD hS => ?_)
  obtain ⟨f_8, ef_8⟩ : ∃ g : Nat → Int32, g = upd gk (0 : Int32).toNatClampNeg 0 := ⟨_, rfl⟩
  have hP : va_P (dC, dI) vwCl [(fl, .inr (2, [.ref fn, .ref fk, .ref fd, .ref fs, .ref fz, .int 0])), (fk, .inl (ck, 8, .inl f_8)), (fs, .inl (cs, 8, .inl f_4)), (fz, .inl (cz, 8, .inl f_6))] H := by rw [ef_8]; exact hP
  have hD : va_D A [(fl, .inr (2, [.ref fn, .ref fk, .ref fd, .ref fs, .ref fz, .int 0])), (fk, .inl (ck, 8, .inl f_8)), (fs, .inl (cs, 8, .inl f_4)), (fz, .inl (cz, 8, .inl f_6))] := by rw [ef_8]; exact hD
  refine lv_aload_n hx hb dX2_open_73 rfl (lv_at hl 0 rfl) ?_
  refine lv_dup hx hb dX2_open_74 rfl ?_
  refine va_get (D := (dC, dI)) (ci := 2) (v := .int 0) (C := RX2) (T := TX2) (N := 6) hx hb hts iX2 hown hK hP 0 rfl rfl 5 (by decide) (hts (.fieldLink RX2 28 "BatchTransfer$Shelf" "count" "I") (by decide +kernel)) (fun _ h9 => h9) rfl dX2_open_75 ?_
  refine lv_iconst (v := 1) hx hb dX2_open_78 (by decide) ?_
  refine lv_iadd hx hb dX2_open_79 ?_
  refine lv_topi (fun x_9 ex_9 => ?_)
  obtain rfl : x_9 = 1 := ex_9.trans (by decide)
  refine va_put (D := (dC, dI)) (ci := 2) (v := .int 1) (ty := .int) (C := RX2) (T := TX2) (N := 6) hx hb hts iX2 tyX2 tyX2_ok nmX2 hown hK hP hD hS 0 rfl rfl 5 (by decide) (hts (.fieldLink RX2 28 "BatchTransfer$Shelf" "count" "I") (by decide +kernel)) (fun _ h9 => h9) rfl (by decide +kernel) rfl rfl (Nat.le_of_ble_eq_true rfl) dX2_open_80 (fun H locs hP hD hS => ?_)
  have hP : va_P (dC, dI) vwCl [(fl, .inr (2, [.ref fn, .ref fk, .ref fd, .ref fs, .ref fz, .int 1])), (fk, .inl (ck, 8, .inl f_8)), (fs, .inl (cs, 8, .inl f_4)), (fz, .inl (cz, 8, .inl f_6))] H := hP
  have hD : va_D A [(fl, .inr (2, [.ref fn, .ref fk, .ref fd, .ref fs, .ref fz, .int 1])), (fk, .inl (ck, 8, .inl f_8)), (fs, .inl (cs, 8, .inl f_4)), (fz, .inl (cz, 8, .inl f_6))] := hD
  have hP9 := hP.sub (ws' := [(fl, .inr (2, [.ref fn, .ref fk, .ref fd, .ref fs, .ref fz, .int 1])), (fk, .inl (ck, 8, .inl f_8)), (fs, .inl (cs, 8, .inl f_4)), (fz, .inl (cz, 8, .inl f_6))]) [0, 1, 2, 3] rfl
  have hD9 := hD.sub (ws' := [(fl, .inr (2, [.ref fn, .ref fk, .ref fd, .ref fs, .ref fz, .int 1])), (fk, .inl (ck, 8, .inl f_8)), (fs, .inl (cs, 8, .inl f_4)), (fz, .inl (cz, 8, .inl f_6))]) [0, 1, 2, 3] (by decide) rfl
  have hK9 := hK.sub (tys' := [(ck, .int), (cs, .int), (cz, .int)]) [0, 1, 2] rfl
  exact W.vret hx hb hr (fun t ht hW => ⟨⟨(f_8, f_4, f_6), rfl, ⟨by rw [ef_4]; exact pk_us, by rw [ef_6]; exact pk_us⟩, by rw [ht]; exact hP9, va_K.moved hW.alike hK9, hD9⟩, hS.F ht⟩) hS.2.2 dX2_open_83

set_option maxHeartbeats 4000000 in
set_option maxRecDepth 100000 in
theorem k_letter (l : Launch) (dC : Nat → ClassId) (dI : Nat → Nat → Nat) (fl fn fk fd fs fz : Nat) (cn ck : ClassId) (gn gk : Nat → Int32) (ch : Int32) (sz : Nat) : Met l yX2_nameLastByLetter wsX2_nameLastByLetter ({ frames := 0, cells := 0, slots := 0, locals := 0 }) (va_Pc [.ref fl, .int ch] (fun U => U.heap.size = sz ∧ va_P (dC, dI) vwCl [(fl, .inr (2, [.ref fn, .ref fk, .ref fd, .ref fs, .ref fz, .int 1])), (fn, .inl (cn, 96, .inl gn)), (fk, .inl (ck, 8, .inl gk))] U.heap ∧ va_K (dC, dI) vwCl [(cn, .byte), (ck, .int)] U ∧ va_D (fun _ => True) [(fl, .inr (2, [.ref fn, .ref fk, .ref fd, .ref fs, .ref fz, .int 1])), (fn, .inl (cn, 96, .inl gn)), (fk, .inl (ck, 8, .inl gk))])) (va_Qv (fun (u9 : (Nat → Int32) × (Nat → Int32)) => match u9 with | (hn, hk) => True) (fun (u9 : (Nat → Int32) × (Nat → Int32)) (t : State) => match u9 with | (hn, hk) => va_P (dC, dI) vwCl [(fl, .inr (2, [.ref fn, .ref fk, .ref fd, .ref fs, .ref fz, .int 1])), (fn, .inl (cn, 96, .inl hn)), (fk, .inl (ck, 8, .inl hk))] t.heap ∧ va_K (dC, dI) vwCl [(cn, .byte), (ck, .int)] t ∧ va_D (va_A [(fl, .inr (2, [.ref fn, .ref fk, .ref fd, .ref fs, .ref fz, .int 1])), (fn, .inl (cn, 96, .inl gn)), (fk, .inl (ck, 8, .inl gk))] sz) [(fl, .inr (2, [.ref fn, .ref fk, .ref fd, .ref fs, .ref fz, .int 1])), (fn, .inl (cn, 96, .inl hn)), (fk, .inl (ck, 8, .inl hk))]) (va_A [(fl, .inr (2, [.ref fn, .ref fk, .ref fd, .ref fs, .ref fz, .int 1])), (fn, .inl (cn, 96, .inl gn)), (fk, .inl (ck, 8, .inl gk))] sz)) 0 0 (va_A [(fl, .inr (2, [.ref fn, .ref fk, .ref fd, .ref fs, .ref fz, .int 1])), (fn, .inl (cn, 96, .inl gn)), (fk, .inl (ck, 8, .inl gk))] sz) := by
  refine Met.ofW (cc := cX2_nameLastByLetter) (maxL := 3) (ret := none) (by decide) rfl ?_
  intro p e s m args below meth c s₁ B hml hv
  obtain ⟨rfl, hsz, hP, hK, hD0⟩ := hv
  have hx := B.exec
  have hb := B.bytes
  have hr := B.returns
  have hts := atoms_spec (ws := wsX2_nameLastByLetter) B.pre
  have hown : s.vm.findClass RX2 = some m.cls := findClass_of_methodNamed B.named
  have hlocks := B.notSynchronized
  subst hsz
  have hD := hD0.self (sz := s.heap.size)
  generalize hAe : va_A [(fl, .inr (2, [.ref fn, .ref fk, .ref fd, .ref fs, .ref fz, .int 1])), (fn, .inl (cn, 96, .inl gn)), (fk, .inl (ck, 8, .inl gk))] s.heap.size = A at hD ⊢
  have hA : ∀ q : Nat, s.heap.size ≤ q → A q := fun q h => by rw [← hAe]; exact Or.inr h
  have hS : va_S A s.heap s.heap [] := va_S.rf
  have hP : va_P (dC, dI) vwCl [(fl, .inr (2, [.ref fn, .ref fk, .ref fd, .ref fs, .ref fz, .int 1])), (fn, .inl (cn, 96, .inl gn)), (fk, .inl (ck, 8, .inl gk))] s.heap := hP
  have hl := lv_entry ([.ref fl, .int ch]) (n := 3) (Nat.le_of_ble_eq_true rfl)
  rw [lg_entry_eq]
  generalize (lg_sl ([.ref fl, .int ch]) ++ List.replicate (3 - (lg_sl ([.ref fl, .int ch])).length) Slot.unset).toArray = ls at hl ⊢
  have hl : lv_has ls 3 [(0, .ref fl), (1, .int ch)] := hl
  have iX2 : ∀ w ∈ wsX20, w ∈ wsX2_nameLastByLetter := by decide +kernel
  refine lv_aload_n hx hb dX2_nameLastByLetter_0 rfl (lv_at hl 0 rfl) ?_
  refine va_get (D := (dC, dI)) (ci := 2) (v := .int 1) (C := RX2) (T := TX2) (N := 6) hx hb hts iX2 hown hK hP 0 rfl rfl 5 (by decide) (hts (.fieldLink RX2 28 "BatchTransfer$Shelf" "count" "I") (by decide +kernel)) (fun _ h9 => h9) rfl dX2_nameLastByLetter_1 ?_
  refine lv_iconst (v := 1) hx hb dX2_nameLastByLetter_4 (by decide) ?_
  refine lv_isub hx hb dX2_nameLastByLetter_5 ?_
  refine lv_topi (fun x_1 ex_1 => ?_)
  obtain rfl : x_1 = 0 := ex_1.trans (by decide)
  refine lv_istore_n (lv' := [(2, .int 0), (0, .ref fl), (1, .int ch)]) hx hb dX2_nameLastByLetter_6 rfl hl (by decide) rfl (fun ls hl => ?_)
  refine lv_iload_n hx hb dX2_nameLastByLetter_7 rfl (lv_at hl 0 rfl) ?_
  refine lv_if_lt (tgt := 29) hx hb dX2_nameLastByLetter_8 (by decide) (fun c_2 => absurd c_2 (by decide)) (fun c_2 => ?_)
  refine lv_aload_n hx hb dX2_nameLastByLetter_11 rfl (lv_at hl 1 rfl) ?_
  refine va_get (D := (dC, dI)) (ci := 2) (v := .ref fn) (C := RX2) (T := TX2) (N := 6) hx hb hts iX2 hown hK hP 0 rfl rfl 0 (by decide) (hts (.fieldLink RX2 9 "BatchTransfer$Shelf" "names" "[B") (by decide +kernel)) (fun _ h9 => h9) rfl dX2_nameLastByLetter_12 ?_
  refine lv_iload_n hx hb dX2_nameLastByLetter_15 rfl (lv_at hl 0 rfl) ?_
  refine lv_bipush (v := 12) hx hb dX2_nameLastByLetter_16 (by decide) ?_
  refine lv_imul hx hb dX2_nameLastByLetter_18 ?_
  refine lv_topi (fun x_3 ex_3 => ?_)
  obtain rfl : x_3 = 0 := ex_3.trans (by decide)
  refine lv_iload_n hx hb dX2_nameLastByLetter_19 rfl (lv_at hl 2 rfl) ?_
  refine lv_i2b hx hb dX2_nameLastByLetter_20 rfl ?_
  refine lv_topi (fun x_4 ex_4 => ?_)
  have h_5 : vp_in (0) 96 := by unfold vp_in; decide +kernel
  refine va_bast hx hb hK hP hD hS 1 0 rfl rfl h_5 dX2_nameLastByLetter_21 (fun H locs hP hD hS => ?_)
  obtain ⟨f_6, ef_6⟩ : ∃ g : Nat → Int32, g = upd gn (0 : Int32).toNatClampNeg (vp_nar .byte x_4) := ⟨_, rfl⟩
  have hP : va_P (dC, dI) vwCl [(fl, .inr (2, [.ref fn, .ref fk, .ref fd, .ref fs, .ref fz, .int 1])), (fn, .inl (cn, 96, .inl f_6)), (fk, .inl (ck, 8, .inl gk))] H := by rw [ef_6]; exact hP
  have hD : va_D A [(fl, .inr (2, [.ref fn, .ref fk, .ref fd, .ref fs, .ref fz, .int 1])), (fn, .inl (cn, 96, .inl f_6)), (fk, .inl (ck, 8, .inl gk))] := by rw [ef_6]; exact hD
  refine lv_aload_n hx hb dX2_nameLastByLetter_22 rfl (lv_at hl 1 rfl) ?_
  refine va_get (D := (dC, dI)) (ci := 2) (v := .ref fk) (C := RX2) (T := TX2) (N := 6) hx hb hts iX2 hown hK hP 0 rfl rfl 1 (by decide) (hts (.fieldLink RX2 15 "BatchTransfer$Shelf" "nameLengths" "[I") (by decide +kernel)) (fun _ h9 => h9) rfl dX2_nameLastByLetter_23 ?_
  refine lv_iload_n hx hb dX2_nameLastByLetter_26 rfl (lv_at hl 0 rfl) ?_
  refine lv_iconst (v := 1) hx hb dX2_nameLastByLetter_27 (by decide) ?_
  have h_7 : vp_in (0) 8 := by unfold vp_in; decide +kernel
  refine va_iast hx hb hK hP hD hS 2 1 rfl rfl h_7 dX2_nameLastByLetter_28 (fun H locs hP hD hS => ?_)
  obtain ⟨f_8, ef_8⟩ : ∃ g : Nat → Int32, g = upd gk (0 : Int32).toNatClampNeg 1 := ⟨_, rfl⟩
  have hP : va_P (dC, dI) vwCl [(fl, .inr (2, [.ref fn, .ref fk, .ref fd, .ref fs, .ref fz, .int 1])), (fn, .inl (cn, 96, .inl f_6)), (fk, .inl (ck, 8, .inl f_8))] H := by rw [ef_8]; exact hP
  have hD : va_D A [(fl, .inr (2, [.ref fn, .ref fk, .ref fd, .ref fs, .ref fz, .int 1])), (fn, .inl (cn, 96, .inl f_6)), (fk, .inl (ck, 8, .inl f_8))] := by rw [ef_8]; exact hD
  have hP9 := hP.sub (ws' := [(fl, .inr (2, [.ref fn, .ref fk, .ref fd, .ref fs, .ref fz, .int 1])), (fn, .inl (cn, 96, .inl f_6)), (fk, .inl (ck, 8, .inl f_8))]) [0, 1, 2] rfl
  have hD9 := hD.sub (ws' := [(fl, .inr (2, [.ref fn, .ref fk, .ref fd, .ref fs, .ref fz, .int 1])), (fn, .inl (cn, 96, .inl f_6)), (fk, .inl (ck, 8, .inl f_8))]) [0, 1, 2] (by decide) rfl
  have hK9 := hK.sub (tys' := [(cn, .byte), (ck, .int)]) [0, 1] rfl
  exact W.vret hx hb hr (fun t ht hW => ⟨⟨(f_6, f_8), rfl, trivial, by rw [ht]; exact hP9, va_K.moved hW.alike hK9, hD9⟩, hS.F ht⟩) hS.2.2 dX2_nameLastByLetter_29

set_option maxHeartbeats 4000000 in
set_option maxRecDepth 100000 in
theorem k_ext (l : Launch) (dC : Nat → ClassId) (dI : Nat → Nat → Nat) (fl fn fk fd fs fz : Nat) (cd cs cz : ClassId) (gd gs gz : Nat → Int32) (kk9 : Nat) (hk9 : kk9 < 3000) (hgs : gs 0 = 0) (hgz : gz 0 = nI kk9) (ch : Int32) (sz : Nat) : Met l yX2_extendLastByOne wsX2_extendLastByOne ({ frames := 0, cells := 0, slots := 0, locals := 0 }) (va_Pc [.ref fl, .int ch] (fun U => U.heap.size = sz ∧ va_P (dC, dI) vwCl [(fl, .inr (2, [.ref fn, .ref fk, .ref fd, .ref fs, .ref fz, .int 1])), (fd, .inl (cd, 24000, .inl gd)), (fs, .inl (cs, 8, .inl gs)), (fz, .inl (cz, 8, .inl gz))] U.heap ∧ va_K (dC, dI) vwCl [(cd, .byte), (cs, .int), (cz, .int)] U ∧ va_D (fun _ => True) [(fl, .inr (2, [.ref fn, .ref fk, .ref fd, .ref fs, .ref fz, .int 1])), (fd, .inl (cd, 24000, .inl gd)), (fs, .inl (cs, 8, .inl gs)), (fz, .inl (cz, 8, .inl gz))])) (va_Qv (fun (u9 : (Nat → Int32) × (Nat → Int32)) => match u9 with | (hd, hz) => hz 0 = nI (kk9 + 1)) (fun (u9 : (Nat → Int32) × (Nat → Int32)) (t : State) => match u9 with | (hd, hz) => va_P (dC, dI) vwCl [(fl, .inr (2, [.ref fn, .ref fk, .ref fd, .ref fs, .ref fz, .int 1])), (fd, .inl (cd, 24000, .inl hd)), (fs, .inl (cs, 8, .inl gs)), (fz, .inl (cz, 8, .inl hz))] t.heap ∧ va_K (dC, dI) vwCl [(cd, .byte), (cs, .int), (cz, .int)] t ∧ va_D (va_A [(fl, .inr (2, [.ref fn, .ref fk, .ref fd, .ref fs, .ref fz, .int 1])), (fd, .inl (cd, 24000, .inl gd)), (fs, .inl (cs, 8, .inl gs)), (fz, .inl (cz, 8, .inl gz))] sz) [(fl, .inr (2, [.ref fn, .ref fk, .ref fd, .ref fs, .ref fz, .int 1])), (fd, .inl (cd, 24000, .inl hd)), (fs, .inl (cs, 8, .inl gs)), (fz, .inl (cz, 8, .inl hz))]) (va_A [(fl, .inr (2, [.ref fn, .ref fk, .ref fd, .ref fs, .ref fz, .int 1])), (fd, .inl (cd, 24000, .inl gd)), (fs, .inl (cs, 8, .inl gs)), (fz, .inl (cz, 8, .inl gz))] sz)) 0 0 (va_A [(fl, .inr (2, [.ref fn, .ref fk, .ref fd, .ref fs, .ref fz, .int 1])), (fd, .inl (cd, 24000, .inl gd)), (fs, .inl (cs, 8, .inl gs)), (fz, .inl (cz, 8, .inl gz))] sz) := by
  refine Met.ofW (cc := cX2_extendLastByOne) (maxL := 3) (ret := none) (by decide) rfl ?_
  intro p e s m args below meth c s₁ B hml hv
  obtain ⟨rfl, hsz, hP, hK, hD0⟩ := hv
  have hx := B.exec
  have hb := B.bytes
  have hr := B.returns
  have hts := atoms_spec (ws := wsX2_extendLastByOne) B.pre
  have hown : s.vm.findClass RX2 = some m.cls := findClass_of_methodNamed B.named
  have hlocks := B.notSynchronized
  subst hsz
  have hD := hD0.self (sz := s.heap.size)
  generalize hAe : va_A [(fl, .inr (2, [.ref fn, .ref fk, .ref fd, .ref fs, .ref fz, .int 1])), (fd, .inl (cd, 24000, .inl gd)), (fs, .inl (cs, 8, .inl gs)), (fz, .inl (cz, 8, .inl gz))] s.heap.size = A at hD ⊢
  have hA : ∀ q : Nat, s.heap.size ≤ q → A q := fun q h => by rw [← hAe]; exact Or.inr h
  have hS : va_S A s.heap s.heap [] := va_S.rf
  have hP : va_P (dC, dI) vwCl [(fl, .inr (2, [.ref fn, .ref fk, .ref fd, .ref fs, .ref fz, .int 1])), (fd, .inl (cd, 24000, .inl gd)), (fs, .inl (cs, 8, .inl gs)), (fz, .inl (cz, 8, .inl gz))] s.heap := hP
  have hl := lv_entry ([.ref fl, .int ch]) (n := 3) (Nat.le_of_ble_eq_true rfl)
  rw [lg_entry_eq]
  generalize (lg_sl ([.ref fl, .int ch]) ++ List.replicate (3 - (lg_sl ([.ref fl, .int ch])).length) Slot.unset).toArray = ls at hl ⊢
  have hl : lv_has ls 3 [(0, .ref fl), (1, .int ch)] := hl
  have iX2 : ∀ w ∈ wsX20, w ∈ wsX2_extendLastByOne := by decide +kernel
  refine lv_aload_n hx hb dX2_extendLastByOne_0 rfl (lv_at hl 0 rfl) ?_
  refine va_get (D := (dC, dI)) (ci := 2) (v := .int 1) (C := RX2) (T := TX2) (N := 6) hx hb hts iX2 hown hK hP 0 rfl rfl 5 (by decide) (hts (.fieldLink RX2 28 "BatchTransfer$Shelf" "count" "I") (by decide +kernel)) (fun _ h9 => h9) rfl dX2_extendLastByOne_1 ?_
  refine lv_iconst (v := 1) hx hb dX2_extendLastByOne_4 (by decide) ?_
  refine lv_isub hx hb dX2_extendLastByOne_5 ?_
  refine lv_topi (fun x_1 ex_1 => ?_)
  obtain rfl : x_1 = 0 := ex_1.trans (by decide)
  refine lv_istore_n (lv' := [(2, .int 0), (0, .ref fl), (1, .int ch)]) hx hb dX2_extendLastByOne_6 rfl hl (by decide) rfl (fun ls hl => ?_)
  refine lv_iload_n hx hb dX2_extendLastByOne_7 rfl (lv_at hl 0 rfl) ?_
  refine lv_if_lt (tgt := 62) hx hb dX2_extendLastByOne_8 (by decide) (fun c_2 => absurd c_2 (by decide)) (fun c_2 => ?_)
  refine lv_aload_n hx hb dX2_extendLastByOne_11 rfl (lv_at hl 1 rfl) ?_
  refine va_get (D := (dC, dI)) (ci := 2) (v := .ref fs) (C := RX2) (T := TX2) (N := 6) hx hb hts iX2 hown hK hP 0 rfl rfl 3 (by decide) (hts (.fieldLink RX2 19 "BatchTransfer$Shelf" "starts" "[I") (by decide +kernel)) (fun _ h9 => h9) rfl dX2_extendLastByOne_12 ?_
  refine lv_iload_n hx hb dX2_extendLastByOne_15 rfl (lv_at hl 0 rfl) ?_
  have h_3 : vp_in (0) 8 := by unfold vp_in; decide +kernel
  refine va_iald hx hb hK hP 2 1 rfl rfl h_3 dX2_extendLastByOne_16 ?_
  refine lv_topi (fun x_4 ex_4 => ?_)
  obtain rfl : x_4 = 0 := by rw [ex_4]; exact hgs
  refine lv_aload_n hx hb dX2_extendLastByOne_17 rfl (lv_at hl 1 rfl) ?_
  refine va_get (D := (dC, dI)) (ci := 2) (v := .ref fz) (C := RX2) (T := TX2) (N := 6) hx hb hts iX2 hown hK hP 0 rfl rfl 4 (by decide) (hts (.fieldLink RX2 22 "BatchTransfer$Shelf" "sizes" "[I") (by decide +kernel)) (fun _ h9 => h9) rfl dX2_extendLastByOne_18 ?_
  refine lv_iload_n hx hb dX2_extendLastByOne_21 rfl (lv_at hl 0 rfl) ?_
  have h_5 : vp_in (0) 8 := by unfold vp_in; decide +kernel
  refine va_iald hx hb hK hP 3 2 rfl rfl h_5 dX2_extendLastByOne_22 ?_
  refine lv_topi (fun x_6 ex_6 => ?_)
  obtain rfl : x_6 = nI kk9 := by rw [ex_6]; exact hgz
  refine lv_iadd hx hb dX2_extendLastByOne_23 ?_
  refine lv_topi (fun x_7 ex_7 => ?_)
  obtain rfl : x_7 = nI kk9 := by rw [ex_7]; exact Int32.zero_add _
  refine lv_aload_n hx hb dX2_extendLastByOne_24 rfl (lv_at hl 1 rfl) ?_
  refine va_get (D := (dC, dI)) (ci := 2) (v := .ref fd) (C := RX2) (T := TX2) (N := 6) hx hb hts iX2 hown hK hP 0 rfl rfl 2 (by decide) (hts (.fieldLink RX2 25 "BatchTransfer$Shelf" "data" "[B") (by decide +kernel)) (fun _ h9 => h9) rfl dX2_extendLastByOne_25 ?_
  refine va_alen (v := 24000) hx hb hK hP 1 0 rfl rfl (show Int32.ofNat 24000 = 24000 by decide) dX2_extendLastByOne_28 ?_
  refine lv_icmp_ge (tgt := 62) hx hb dX2_extendLastByOne_29 (by decide) (fun c => absurd c (show ¬ nI 24000 ≤ nI kk9 from nI_ge (by omega) (by decide))) (fun c => ?_)
  refine lv_aload_n hx hb dX2_extendLastByOne_32 rfl (lv_at hl 1 rfl) ?_
  refine va_get (D := (dC, dI)) (ci := 2) (v := .ref fd) (C := RX2) (T := TX2) (N := 6) hx hb hts iX2 hown hK hP 0 rfl rfl 2 (by decide) (hts (.fieldLink RX2 25 "BatchTransfer$Shelf" "data" "[B") (by decide +kernel)) (fun _ h9 => h9) rfl dX2_extendLastByOne_33 ?_
  refine lv_aload_n hx hb dX2_extendLastByOne_36 rfl (lv_at hl 1 rfl) ?_
  refine va_get (D := (dC, dI)) (ci := 2) (v := .ref fs) (C := RX2) (T := TX2) (N := 6) hx hb hts iX2 hown hK hP 0 rfl rfl 3 (by decide) (hts (.fieldLink RX2 19 "BatchTransfer$Shelf" "starts" "[I") (by decide +kernel)) (fun _ h9 => h9) rfl dX2_extendLastByOne_37 ?_
  refine lv_iload_n hx hb dX2_extendLastByOne_40 rfl (lv_at hl 0 rfl) ?_
  have h_8 : vp_in (0) 8 := by unfold vp_in; decide +kernel
  refine va_iald hx hb hK hP 2 1 rfl rfl h_8 dX2_extendLastByOne_41 ?_
  refine lv_topi (fun x_9 ex_9 => ?_)
  obtain rfl : x_9 = 0 := by rw [ex_9]; exact hgs
  refine lv_aload_n hx hb dX2_extendLastByOne_42 rfl (lv_at hl 1 rfl) ?_
  refine va_get (D := (dC, dI)) (ci := 2) (v := .ref fz) (C := RX2) (T := TX2) (N := 6) hx hb hts iX2 hown hK hP 0 rfl rfl 4 (by decide) (hts (.fieldLink RX2 22 "BatchTransfer$Shelf" "sizes" "[I") (by decide +kernel)) (fun _ h9 => h9) rfl dX2_extendLastByOne_43 ?_
  refine lv_iload_n hx hb dX2_extendLastByOne_46 rfl (lv_at hl 0 rfl) ?_
  have h_10 : vp_in (0) 8 := by unfold vp_in; decide +kernel
  refine va_iald hx hb hK hP 3 2 rfl rfl h_10 dX2_extendLastByOne_47 ?_
  refine lv_topi (fun x_11 ex_11 => ?_)
  obtain rfl : x_11 = nI kk9 := by rw [ex_11]; exact hgz
  refine lv_iadd hx hb dX2_extendLastByOne_48 ?_
  refine lv_topi (fun x_12 ex_12 => ?_)
  obtain rfl : x_12 = nI kk9 := by rw [ex_12]; exact Int32.zero_add _
  refine lv_iload_n hx hb dX2_extendLastByOne_49 rfl (lv_at hl 2 rfl) ?_
  refine lv_i2b hx hb dX2_extendLastByOne_50 rfl ?_
  refine lv_topi (fun x_13 ex_13 => ?_)
  have h_14 : vp_in (nI kk9) 24000 := vp_in_nI (by omega) (by decide)
  refine va_bast hx hb hK hP hD hS 1 0 rfl rfl h_14 dX2_extendLastByOne_51 (fun H locs hP hD hS => ?_)
  obtain ⟨f_15, ef_15⟩ : ∃ g : Nat → Int32, g = upd gd (nI kk9 : Int32).toNatClampNeg (vp_nar .byte x_13) := ⟨_, rfl⟩
  have hP : va_P (dC, dI) vwCl [(fl, .inr (2, [.ref fn, .ref fk, .ref fd, .ref fs, .ref fz, .int 1])), (fd, .inl (cd, 24000, .inl f_15)), (fs, .inl (cs, 8, .inl gs)), (fz, .inl (cz, 8, .inl gz))] H := by rw [ef_15]; exact hP
  have hD : va_D A [(fl, .inr (2, [.ref fn, .ref fk, .ref fd, .ref fs, .ref fz, .int 1])), (fd, .inl (cd, 24000, .inl f_15)), (fs, .inl (cs, 8, .inl gs)), (fz, .inl (cz, 8, .inl gz))] := by rw [ef_15]; exact hD
  refine lv_aload_n hx hb dX2_extendLastByOne_52 rfl (lv_at hl 1 rfl) ?_
  refine va_get (D := (dC, dI)) (ci := 2) (v := .ref fz) (C := RX2) (T := TX2) (N := 6) hx hb hts iX2 hown hK hP 0 rfl rfl 4 (by decide) (hts (.fieldLink RX2 22 "BatchTransfer$Shelf" "sizes" "[I") (by decide +kernel)) (fun _ h9 => h9) rfl dX2_extendLastByOne_53 ?_
  refine lv_iload_n hx hb dX2_extendLastByOne_56 rfl (lv_at hl 0 rfl) ?_
  refine lv_dup2_11 hx hb dX2_extendLastByOne_57 rfl rfl ?_
  have h_16 : vp_in (0) 8 := by unfold vp_in; decide +kernel
  refine va_iald hx hb hK hP 3 2 rfl rfl h_16 dX2_extendLastByOne_58 ?_
  refine lv_topi (fun x_17 ex_17 => ?_)
  obtain rfl : x_17 = nI kk9 := by rw [ex_17]; exact hgz
  refine lv_iconst (v := 1) hx hb dX2_extendLastByOne_59 (by decide) ?_
  refine lv_iadd hx hb dX2_extendLastByOne_60 ?_
  refine lv_topi (fun x_18 ex_18 => ?_)
  obtain rfl : x_18 = nI (kk9 + 1) := by rw [ex_18]; exact nI_1 kk9
  have h_19 : vp_in (0) 8 := by unfold vp_in; decide +kernel
  refine va_iast hx hb hK hP hD hS 3 2 rfl rfl h_19 dX2_extendLastByOne_61 (fun H locs hP hD hS => ?_)
  obtain ⟨f_20, ef_20⟩ : ∃ g : Nat → Int32, g = upd gz (0 : Int32).toNatClampNeg (nI (kk9 + 1)) := ⟨_, rfl⟩
  have hP : va_P (dC, dI) vwCl [(fl, .inr (2, [.ref fn, .ref fk, .ref fd, .ref fs, .ref fz, .int 1])), (fd, .inl (cd, 24000, .inl f_15)), (fs, .inl (cs, 8, .inl gs)), (fz, .inl (cz, 8, .inl f_20))] H := by rw [ef_20]; exact hP
  have hD : va_D A [(fl, .inr (2, [.ref fn, .ref fk, .ref fd, .ref fs, .ref fz, .int 1])), (fd, .inl (cd, 24000, .inl f_15)), (fs, .inl (cs, 8, .inl gs)), (fz, .inl (cz, 8, .inl f_20))] := by rw [ef_20]; exact hD
  have hP9 := hP.sub (ws' := [(fl, .inr (2, [.ref fn, .ref fk, .ref fd, .ref fs, .ref fz, .int 1])), (fd, .inl (cd, 24000, .inl f_15)), (fs, .inl (cs, 8, .inl gs)), (fz, .inl (cz, 8, .inl f_20))]) [0, 1, 2, 3] rfl
  have hD9 := hD.sub (ws' := [(fl, .inr (2, [.ref fn, .ref fk, .ref fd, .ref fs, .ref fz, .int 1])), (fd, .inl (cd, 24000, .inl f_15)), (fs, .inl (cs, 8, .inl gs)), (fz, .inl (cz, 8, .inl f_20))]) [0, 1, 2, 3] (by decide) rfl
  have hK9 := hK.sub (tys' := [(cd, .byte), (cs, .int), (cz, .int)]) [0, 1, 2] rfl
  exact W.vret hx hb hr (fun t ht hW => ⟨⟨(f_15, f_20), rfl, by rw [ef_20]; exact pk_us, by rw [ht]; exact hP9, va_K.moved hW.alike hK9, hD9⟩, hS.F ht⟩) hS.2.2 dX2_extendLastByOne_62

set_option maxHeartbeats 4000000 in
set_option maxRecDepth 100000 in
theorem k_mloop {p : Program} {l : Launch} {e : Env} {s : State} {m : MethodId} {args : Array Value} {below : List Frame} {meth : Method} {c : Code} {Q : State → Prop} {A : Nat → Prop} {dC : Nat → ClassId} {dI : Nat → Nat → Nat} {bt ta wi se re fl un fn fk fd fs fz wb : Nat} {eb sn sp sa sm n0 n1 s0 s1 s2 s4 s6 s7 s8 s9 : Int32} {cn ck cd cs cz : ClassId} {hs_7 hn_10 hk_11 : Nat → Int32} (hgs : hs_7 0 = 0) (nn : Nat) (hnn : nn ≤ 3000) (en : n0 = nI nn) (hx : p.tables.exec = Jvm.exec) (hb : c.code = cX7_made) (hml : c.maxLocals = 5) (hown : s.vm.findClass RX7 = some m.cls) (hts : ∀ w ∈ wsX7_made, w.before args s = true) (hA : ∀ q : Nat, s.heap.size ≤ q → A q) (kk : ∀ (gd gz : Nat → Int32) (H : Heap) (locs : List Loc) (ls : Array Slot), gz 0 = nI nn → va_K (dC, dI) vwCl [(cd, .byte), (cs, .int), (cz, .int), (cn, .byte), (ck, .int)] s → va_P (dC, dI) vwCl [(fd, .inl (cd, 24000, .inl gd)), (bt, .inr (5, [.ref ta, .ref wi, .ref se, .ref re, .int eb, .int sn, .int sp, .int sa, .int sm])), (se, .inr (1, [.int s0, .int s1, .int s2, .ref fl, .int s4, .ref un, .int s6, .int s7, .int s8, .int s9])), (wi, .inr (4, [.ref wb, .int 0])), (fs, .inl (cs, 8, .inl hs_7)), (fz, .inl (cz, 8, .inl gz)), (fl, .inr (2, [.ref fn, .ref fk, .ref fd, .ref fs, .ref fz, .int 1])), (fn, .inl (cn, 96, .inl hn_10)), (fk, .inl (ck, 8, .inl hk_11))] H → va_D A [(fd, .inl (cd, 24000, .inl gd)), (bt, .inr (5, [.ref ta, .ref wi, .ref se, .ref re, .int eb, .int sn, .int sp, .int sa, .int sm])), (se, .inr (1, [.int s0, .int s1, .int s2, .ref fl, .int s4, .ref un, .int s6, .int s7, .int s8, .int s9])), (wi, .inr (4, [.ref wb, .int 0])), (fs, .inl (cs, 8, .inl hs_7)), (fz, .inl (cz, 8, .inl gz)), (fl, .inr (2, [.ref fn, .ref fk, .ref fd, .ref fs, .ref fz, .int 1])), (fn, .inl (cn, 96, .inl hn_10)), (fk, .inl (ck, 8, .inl hk_11))] → va_S A s.heap H locs → lv_has ls 5 [(4, .int (nI nn)), (3, .ref fl), (0, .ref bt), (1, .int n0), (2, .int n1)] → W p l e ({ frames := 2, cells := 0, slots := 0, locals := 40 } : Room) s m args below meth c H locs 0 0 Q (F0 m 63 ls [])) : ∀ (n i : Nat), i + n = nn → ∀ (gd gz : Nat → Int32), gz 0 = nI i → ∀ (H : Heap) (locs : List Loc), va_K (dC, dI) vwCl [(cd, .byte), (cs, .int), (cz, .int), (cn, .byte), (ck, .int)] s → va_P (dC, dI) vwCl [(fd, .inl (cd, 24000, .inl gd)), (bt, .inr (5, [.ref ta, .ref wi, .ref se, .ref re, .int eb, .int sn, .int sp, .int sa, .int sm])), (se, .inr (1, [.int s0, .int s1, .int s2, .ref fl, .int s4, .ref un, .int s6, .int s7, .int s8, .int s9])), (wi, .inr (4, [.ref wb, .int 0])), (fs, .inl (cs, 8, .inl hs_7)), (fz, .inl (cz, 8, .inl gz)), (fl, .inr (2, [.ref fn, .ref fk, .ref fd, .ref fs, .ref fz, .int 1])), (fn, .inl (cn, 96, .inl hn_10)), (fk, .inl (ck, 8, .inl hk_11))] H → va_D A [(fd, .inl (cd, 24000, .inl gd)), (bt, .inr (5, [.ref ta, .ref wi, .ref se, .ref re, .int eb, .int sn, .int sp, .int sa, .int sm])), (se, .inr (1, [.int s0, .int s1, .int s2, .ref fl, .int s4, .ref un, .int s6, .int s7, .int s8, .int s9])), (wi, .inr (4, [.ref wb, .int 0])), (fs, .inl (cs, 8, .inl hs_7)), (fz, .inl (cz, 8, .inl gz)), (fl, .inr (2, [.ref fn, .ref fk, .ref fd, .ref fs, .ref fz, .int 1])), (fn, .inl (cn, 96, .inl hn_10)), (fk, .inl (ck, 8, .inl hk_11))] → va_S A s.heap H locs → ∀ (ls : Array Slot), lv_has ls 5 [(4, .int (nI i)), (3, .ref fl), (0, .ref bt), (1, .int n0), (2, .int n1)] → W p l e ({ frames := 2, cells := 0, slots := 0, locals := 40 } : Room) s m args below meth c H locs 0 0 Q (F0 m 41 ls []) := by
  intro n
  induction n with
  | zero =>
    intro i hi gd gz hgz H locs hK hP hD hS ls hl
    refine lv_iload hx hb dX7_made_41 (lv_at hl 0 rfl) ?_
    refine lv_iload_n hx hb dX7_made_43 rfl (lv_at hl 3 rfl) ?_
    have hin : i = nn := by omega
    subst hin
    exact lv_icmp_ge (tgt := 63) hx hb dX7_made_44 (by decide) (fun _ => kk gd gz H locs ls hgz hK hP hD hS hl) (fun c9 => absurd (by rw [en]; exact nI_le (Nat.le_refl _) (by omega)) c9)
  | succ n ih =>
    intro i hi gd gz hgz H locs hK hP hD hS ls hl
    refine lv_iload hx hb dX7_made_41 (lv_at hl 0 rfl) ?_
    refine lv_iload_n hx hb dX7_made_43 rfl (lv_at hl 3 rfl) ?_
    refine lv_icmp_ge (tgt := 63) hx hb dX7_made_44 (by decide) (fun c9 => absurd (by rw [en] at c9; exact c9) (nI_ge (by omega) (by omega))) (fun c9 => ?_)
    refine lv_aload_n hx hb dX7_made_47 rfl (lv_at hl 1 rfl) ?_
    refine lv_iload_n hx hb dX7_made_48 rfl (lv_at hl 4 rfl) ?_
    refine lv_iconst (v := 5) hx hb dX7_made_49 (by decide) ?_
    refine lv_iload hx hb dX7_made_50 (lv_at hl 0 rfl) ?_
    refine lv_imul hx hb dX7_made_52 ?_
    refine lv_topi (fun x_501 ex_501 => ?_)
    refine lv_iadd hx hb dX7_made_53 ?_
    refine lv_topi (fun x_502 ex_502 => ?_)
    have hPc := hP.sub (ws' := [(fl, .inr (2, [.ref fn, .ref fk, .ref fd, .ref fs, .ref fz, .int 1])), (fd, .inl (cd, 24000, .inl gd)), (fs, .inl (cs, 8, .inl hs_7)), (fz, .inl (cz, 8, .inl gz))]) [6, 0, 4, 5] rfl
    have hDc := hD.sub (ws' := [(fl, .inr (2, [.ref fn, .ref fk, .ref fd, .ref fs, .ref fz, .int 1])), (fd, .inl (cd, 24000, .inl gd)), (fs, .inl (cs, 8, .inl hs_7)), (fz, .inl (cz, 8, .inl gz))]) [6, 0, 4, 5] (by decide) rfl
    have hKc := hK.sub (tys' := [(cd, .byte), (cs, .int), (cz, .int)]) [0, 1, 2] rfl
    have hFc := va_free (wc := [(fl, .inr (2, [.ref fn, .ref fk, .ref fd, .ref fs, .ref fz, .int 1])), (fd, .inl (cd, 24000, .inl gd)), (fs, .inl (cs, 8, .inl hs_7)), (fz, .inl (cz, 8, .inl gz))]) hD hS hA [6, 0, 4, 5] rfl
    refine va_callv (va_runV (As := [.int x_502]) (rest := []) ⟨hx, hb, hml, hown, hts⟩ (k_ext l dC dI fl fn fk fd fs fz cd cs cz gd hs_7 gz i (by omega) hgs hgz x_502 H.size) (cwV 1 hts gX7_made_X2_extendLastByOne rfl rfl rfl (by decide +kernel) ⟨Nat.le_of_ble_eq_true rfl, Nat.le_of_ble_eq_true rfl⟩) ⟨fun a U g mk q => by obtain ⟨q0, q1, qP, qK, qD⟩ := q; exact ⟨q0, q1, qP, va_K.moved (u := U) (U := U.calling g mk a) (Vm.Alike.refl U.vm) qK, qD⟩, va_recv hKc hPc (ci := 2) (q0 := 0) rfl rfl, fun U hU hW => ⟨rfl, by rw [hU], by rw [hU]; exact hPc, va_K.moved hW.alike hKc, hDc.weaken (fun _ _ _ _ => trivial)⟩⟩ rfl rfl hl.1 rfl (lv_room (Nat.le_of_ble_eq_true rfl)) dX7_made_54 ⟨show 0 + 0 ≤ 0 by omega, show 0 + 0 ≤ 0 by omega⟩) hS (fun q _ h => hFc q h) hFc (fun u t H1 locs ht hvm hw hB hz1 hk1 hS => ?_)
    obtain ⟨hd_504, hz_505⟩ := u
    obtain ⟨hP1, hK1, hD1⟩ := hB
    rw [ht] at hP1
    have hK1 := va_K.moved hvm.symm hK1
    try dsimp only at hw
    obtain ⟨hP, hD⟩ := va_join (wr := [(bt, .inr (5, [.ref ta, .ref wi, .ref se, .ref re, .int eb, .int sn, .int sp, .int sa, .int sm])), (se, .inr (1, [.int s0, .int s1, .int s2, .ref fl, .int s4, .ref un, .int s6, .int s7, .int s8, .int s9])), (wi, .inr (4, [.ref wb, .int 0])), (fn, .inl (cn, 96, .inl hn_10)), (fk, .inl (ck, 8, .inl hk_11))]) (w1 := [(fl, .inr (2, [.ref fn, .ref fk, .ref fd, .ref fs, .ref fz, .int 1])), (fd, .inl (cd, 24000, .inl hd_504)), (fs, .inl (cs, 8, .inl hs_7)), (fz, .inl (cz, 8, .inl hz_505))]) hP hD [6, 0, 4, 5] [1, 2, 3, 7, 8] rfl rfl (by decide) (by decide) hk1 hFc hP1 hD1
    have hK := (hK.sub (tys' := [(cn, .byte), (ck, .int)]) [3, 4] rfl).app hK1
    generalize H1 = H at hP hS ⊢
    have hK : va_K (dC, dI) vwCl [(cn, .byte), (ck, .int), (cd, .byte), (cs, .int), (cz, .int)] s := hK
    have hP : va_P (dC, dI) vwCl [(bt, .inr (5, [.ref ta, .ref wi, .ref se, .ref re, .int eb, .int sn, .int sp, .int sa, .int sm])), (se, .inr (1, [.int s0, .int s1, .int s2, .ref fl, .int s4, .ref un, .int s6, .int s7, .int s8, .int s9])), (wi, .inr (4, [.ref wb, .int 0])), (fn, .inl (cn, 96, .inl hn_10)), (fk, .inl (ck, 8, .inl hk_11)), (fl, .inr (2, [.ref fn, .ref fk, .ref fd, .ref fs, .ref fz, .int 1])), (fd, .inl (cd, 24000, .inl hd_504)), (fs, .inl (cs, 8, .inl hs_7)), (fz, .inl (cz, 8, .inl hz_505))] H := hP
    have hD : va_D A [(bt, .inr (5, [.ref ta, .ref wi, .ref se, .ref re, .int eb, .int sn, .int sp, .int sa, .int sm])), (se, .inr (1, [.int s0, .int s1, .int s2, .ref fl, .int s4, .ref un, .int s6, .int s7, .int s8, .int s9])), (wi, .inr (4, [.ref wb, .int 0])), (fn, .inl (cn, 96, .inl hn_10)), (fk, .inl (ck, 8, .inl hk_11)), (fl, .inr (2, [.ref fn, .ref fk, .ref fd, .ref fs, .ref fz, .int 1])), (fd, .inl (cd, 24000, .inl hd_504)), (fs, .inl (cs, 8, .inl hs_7)), (fz, .inl (cz, 8, .inl hz_505))] := hD
    obtain ⟨x_506, ex_506⟩ : ∃ y : Int32, y = nI i + 1 := ⟨_, rfl⟩
    refine lv_iinc (v := x_506) (lv' := [(4, .int x_506), (3, .ref fl), (0, .ref bt), (1, .int n0), (2, .int n1)]) hx hb dX7_made_57 hl (k := 0) rfl (by rw [ex_506]; rfl) (by decide) rfl (fun ls hl => ?_)
    refine lv_goto (tgt := 41) hx hb dX7_made_60 (by decide) ?_
    have hc9 : x_506 = nI (i + 1) := ex_506.trans (nI_1 i)
    rw [hc9] at hl
    exact ih (i + 1) (by omega) hd_504 hz_505 hw H locs (hK.sub [2, 3, 4, 0, 1] rfl) (hP.sub [6, 0, 1, 2, 7, 8, 5, 3, 4] rfl) (hD.sub [6, 0, 1, 2, 7, 8, 5, 3, 4] (by decide) rfl) hS ls (lv_sub hl [0, 1, 2, 3, 4] rfl)

set_option maxHeartbeats 4000000 in
set_option maxRecDepth 100000 in
theorem k_made (l : Launch) (dC : Nat → ClassId) (dI : Nat → Nat → Nat) (bt ta wi se re : Nat) (eb sn sp sa sm n0 n1 : Int32) (fl un fn fk fd fs fz wb : Nat) (s0 s1 s2 s4 s6 s7 s8 s9 : Int32) (cn ck cd cs cz : ClassId) (gn gk gd gs gz : Nat → Int32) (sz : Nat) : Met l yX7_made wsX7_made ({ frames := 2, cells := 0, slots := 0, locals := 40 }) (va_Pc [.ref bt, .int n0, .int n1] (fun U => U.heap.size = sz ∧ va_P (dC, dI) vwCl [(bt, .inr (5, [.ref ta, .ref wi, .ref se, .ref re, .int eb, .int sn, .int sp, .int sa, .int sm])), (se, .inr (1, [.int s0, .int s1, .int s2, .ref fl, .int s4, .ref un, .int s6, .int s7, .int s8, .int s9])), (fl, .inr (2, [.ref fn, .ref fk, .ref fd, .ref fs, .ref fz, .int 0])), (wi, .inr (4, [.ref wb, .int 0])), (fn, .inl (cn, 96, .inl gn)), (fk, .inl (ck, 8, .inl gk)), (fd, .inl (cd, 24000, .inl gd)), (fs, .inl (cs, 8, .inl gs)), (fz, .inl (cz, 8, .inl gz))] U.heap ∧ va_K (dC, dI) vwCl [(cn, .byte), (ck, .int), (cd, .byte), (cs, .int), (cz, .int)] U ∧ va_D (fun _ => True) [(bt, .inr (5, [.ref ta, .ref wi, .ref se, .ref re, .int eb, .int sn, .int sp, .int sa, .int sm])), (se, .inr (1, [.int s0, .int s1, .int s2, .ref fl, .int s4, .ref un, .int s6, .int s7, .int s8, .int s9])), (fl, .inr (2, [.ref fn, .ref fk, .ref fd, .ref fs, .ref fz, .int 0])), (wi, .inr (4, [.ref wb, .int 0])), (fn, .inl (cn, 96, .inl gn)), (fk, .inl (ck, 8, .inl gk)), (fd, .inl (cd, 24000, .inl gd)), (fs, .inl (cs, 8, .inl gs)), (fz, .inl (cz, 8, .inl gz))])) (va_Qi (fun (r : Int32) (_ : Unit) => (n0 < 0 → r = -1) ∧ (3000 < n0 → r = -1) ∧ (¬ n0 < 0 → ¬ 3000 < n0 → r = 0)) (fun (_ : Unit) (_ : State) => True) (va_A [(bt, .inr (5, [.ref ta, .ref wi, .ref se, .ref re, .int eb, .int sn, .int sp, .int sa, .int sm])), (se, .inr (1, [.int s0, .int s1, .int s2, .ref fl, .int s4, .ref un, .int s6, .int s7, .int s8, .int s9])), (fl, .inr (2, [.ref fn, .ref fk, .ref fd, .ref fs, .ref fz, .int 0])), (wi, .inr (4, [.ref wb, .int 0])), (fn, .inl (cn, 96, .inl gn)), (fk, .inl (ck, 8, .inl gk)), (fd, .inl (cd, 24000, .inl gd)), (fs, .inl (cs, 8, .inl gs)), (fz, .inl (cz, 8, .inl gz))] sz)) 0 0 (va_A [(bt, .inr (5, [.ref ta, .ref wi, .ref se, .ref re, .int eb, .int sn, .int sp, .int sa, .int sm])), (se, .inr (1, [.int s0, .int s1, .int s2, .ref fl, .int s4, .ref un, .int s6, .int s7, .int s8, .int s9])), (fl, .inr (2, [.ref fn, .ref fk, .ref fd, .ref fs, .ref fz, .int 0])), (wi, .inr (4, [.ref wb, .int 0])), (fn, .inl (cn, 96, .inl gn)), (fk, .inl (ck, 8, .inl gk)), (fd, .inl (cd, 24000, .inl gd)), (fs, .inl (cs, 8, .inl gs)), (fz, .inl (cz, 8, .inl gz))] sz) := by
  refine Met.ofW (cc := cX7_made) (maxL := 5) (ret := (some .int)) (by decide) rfl ?_
  intro p e s m args below meth c s₁ B hml hv
  obtain ⟨rfl, hsz, hP, hK, hD0⟩ := hv
  have hx := B.exec
  have hb := B.bytes
  have hr := B.returns
  have hts := atoms_spec (ws := wsX7_made) B.pre
  have hown : s.vm.findClass RX7 = some m.cls := findClass_of_methodNamed B.named
  have hlocks := B.notSynchronized
  subst hsz
  have hD := hD0.self (sz := s.heap.size)
  generalize hAe : va_A [(bt, .inr (5, [.ref ta, .ref wi, .ref se, .ref re, .int eb, .int sn, .int sp, .int sa, .int sm])), (se, .inr (1, [.int s0, .int s1, .int s2, .ref fl, .int s4, .ref un, .int s6, .int s7, .int s8, .int s9])), (fl, .inr (2, [.ref fn, .ref fk, .ref fd, .ref fs, .ref fz, .int 0])), (wi, .inr (4, [.ref wb, .int 0])), (fn, .inl (cn, 96, .inl gn)), (fk, .inl (ck, 8, .inl gk)), (fd, .inl (cd, 24000, .inl gd)), (fs, .inl (cs, 8, .inl gs)), (fz, .inl (cz, 8, .inl gz))] s.heap.size = A at hD ⊢
  have hA : ∀ q : Nat, s.heap.size ≤ q → A q := fun q h => by rw [← hAe]; exact Or.inr h
  have hS : va_S A s.heap s.heap [] := va_S.rf
  have hP : va_P (dC, dI) vwCl [(bt, .inr (5, [.ref ta, .ref wi, .ref se, .ref re, .int eb, .int sn, .int sp, .int sa, .int sm])), (se, .inr (1, [.int s0, .int s1, .int s2, .ref fl, .int s4, .ref un, .int s6, .int s7, .int s8, .int s9])), (fl, .inr (2, [.ref fn, .ref fk, .ref fd, .ref fs, .ref fz, .int 0])), (wi, .inr (4, [.ref wb, .int 0])), (fn, .inl (cn, 96, .inl gn)), (fk, .inl (ck, 8, .inl gk)), (fd, .inl (cd, 24000, .inl gd)), (fs, .inl (cs, 8, .inl gs)), (fz, .inl (cz, 8, .inl gz))] s.heap := hP
  have hl := lv_entry ([.ref bt, .int n0, .int n1]) (n := 5) (Nat.le_of_ble_eq_true rfl)
  rw [lg_entry_eq]
  generalize (lg_sl ([.ref bt, .int n0, .int n1]) ++ List.replicate (5 - (lg_sl ([.ref bt, .int n0, .int n1])).length) Slot.unset).toArray = ls at hl ⊢
  have hl : lv_has ls 5 [(0, .ref bt), (1, .int n0), (2, .int n1)] := hl
  have iX1 : ∀ w ∈ wsX10, w ∈ wsX7_made := by decide +kernel
  have iX2 : ∀ w ∈ wsX20, w ∈ wsX7_made := by decide +kernel
  have iX7 : ∀ w ∈ wsX70, w ∈ wsX7_made := by decide +kernel
  refine lv_iload_n hx hb dX7_made_0 rfl (lv_at hl 1 rfl) ?_
  refine lv_if_lt (tgt := 18) hx hb dX7_made_1 (by decide) (fun c_1 => ?_) (fun c_1 => ?_)
  · refine lv_iconst (v := (-1)) hx hb dX7_made_18 (by decide) ?_
    exact W.iret (v := (-1)) hx hb hr (fun t ht hW => ⟨⟨(-1), (), rfl, ⟨fun _ => rfl, fun _ => rfl, fun h => absurd c_1 h⟩, trivial⟩, hS.F ht⟩) hS.2.2 dX7_made_19
  · refine lv_iload_n hx hb dX7_made_4 rfl (lv_at hl 1 rfl) ?_
    refine lv_sipush (v := 3000) hx hb dX7_made_5 (by decide) ?_
    refine lv_icmp_gt (tgt := 18) hx hb dX7_made_8 (by decide) (fun c_2 => ?_) (fun c_2 => ?_)
    · refine lv_iconst (v := (-1)) hx hb dX7_made_18 (by decide) ?_
      exact W.iret (v := (-1)) hx hb hr (fun t ht hW => ⟨⟨(-1), (), rfl, ⟨fun _ => rfl, fun _ => rfl, fun _ h => absurd c_2 h⟩, trivial⟩, hS.F ht⟩) hS.2.2 dX7_made_19
    · refine lv_aload_n hx hb dX7_made_11 rfl (lv_at hl 0 rfl) ?_
      have hPc := hP.sub (ws' := [(bt, .inr (5, [.ref ta, .ref wi, .ref se, .ref re, .int eb, .int sn, .int sp, .int sa, .int sm])), (se, .inr (1, [.int s0, .int s1, .int s2, .ref fl, .int s4, .ref un, .int s6, .int s7, .int s8, .int s9])), (fl, .inr (2, [.ref fn, .ref fk, .ref fd, .ref fs, .ref fz, .int 0])), (wi, .inr (4, [.ref wb, .int 0]))]) [0, 1, 2, 3] rfl
      have hDc := hD.sub (ws' := [(bt, .inr (5, [.ref ta, .ref wi, .ref se, .ref re, .int eb, .int sn, .int sp, .int sa, .int sm])), (se, .inr (1, [.int s0, .int s1, .int s2, .ref fl, .int s4, .ref un, .int s6, .int s7, .int s8, .int s9])), (fl, .inr (2, [.ref fn, .ref fk, .ref fd, .ref fs, .ref fz, .int 0])), (wi, .inr (4, [.ref wb, .int 0]))]) [0, 1, 2, 3] (by decide) rfl
      have hKc := hK.sub (tys' := []) [] rfl
      have hFc := va_free (wc := [(bt, .inr (5, [.ref ta, .ref wi, .ref se, .ref re, .int eb, .int sn, .int sp, .int sa, .int sm])), (se, .inr (1, [.int s0, .int s1, .int s2, .ref fl, .int s4, .ref un, .int s6, .int s7, .int s8, .int s9])), (fl, .inr (2, [.ref fn, .ref fk, .ref fd, .ref fs, .ref fz, .int 0])), (wi, .inr (4, [.ref wb, .int 0]))]) hD hS hA [0, 1, 2, 3] rfl
      refine va_calli (va_runV (As := []) (rest := []) ⟨hx, hb, hml, hown, hts⟩ (k_may l dC dI bt ta wi se re eb sn sp sa sm fl un fn fk fd fs fz wb s0 s1 s2 s4 s6 s7 s8 s9 0 0 s.heap.size) (cwV 0 hts gX7_made_X7_mayAddFile rfl rfl rfl (by decide +kernel) ⟨Nat.le_of_ble_eq_true rfl, Nat.le_of_ble_eq_true rfl⟩) ⟨fun a U g mk q => by obtain ⟨q0, q1, qP, qK, qD⟩ := q; exact ⟨q0, q1, qP, va_K.moved (u := U) (U := U.calling g mk a) (Vm.Alike.refl U.vm) qK, qD⟩, va_recv hKc hPc (ci := 5) (q0 := 0) rfl rfl, fun U hU hW => ⟨rfl, by rw [hU], by rw [hU]; exact hPc, va_K.moved hW.alike hKc, hDc.weaken (fun _ _ _ _ => trivial)⟩⟩ rfl rfl hl.1 rfl (lv_room (Nat.le_of_ble_eq_true rfl)) dX7_made_12 ⟨show 0 + 0 ≤ 0 by omega, show 0 + 0 ≤ 0 by omega⟩) hS (fun q _ h => hFc q h) hFc (fun r_3 u t H1 locs ht hvm hw hB hz1 hk1 hS => ?_)
      obtain ⟨hP1, hK1, hD1⟩ := hB
      rw [ht] at hP1
      have hK1 := va_K.moved hvm.symm hK1
      try dsimp only at hw
      obtain ⟨hP, hD⟩ := va_join (wr := [(fn, .inl (cn, 96, .inl gn)), (fk, .inl (ck, 8, .inl gk)), (fd, .inl (cd, 24000, .inl gd)), (fs, .inl (cs, 8, .inl gs)), (fz, .inl (cz, 8, .inl gz))]) (w1 := [(bt, .inr (5, [.ref ta, .ref wi, .ref se, .ref re, .int eb, .int sn, .int sp, .int sa, .int sm])), (se, .inr (1, [.int s0, .int s1, .int s2, .ref fl, .int s4, .ref un, .int s6, .int s7, .int s8, .int s9])), (fl, .inr (2, [.ref fn, .ref fk, .ref fd, .ref fs, .ref fz, .int 0])), (wi, .inr (4, [.ref wb, .int 0]))]) hP hD [0, 1, 2, 3] [4, 5, 6, 7, 8] rfl rfl (by decide) (by decide) hk1 hFc hP1 hD1
      have hK := (hK.sub (tys' := [(cn, .byte), (ck, .int), (cd, .byte), (cs, .int), (cz, .int)]) [0, 1, 2, 3, 4] rfl).app hK1
      generalize H1 = H at hP hS ⊢
      have hK : va_K (dC, dI) vwCl [(cn, .byte), (ck, .int), (cd, .byte), (cs, .int), (cz, .int)] s := hK
      have hP : va_P (dC, dI) vwCl [(fn, .inl (cn, 96, .inl gn)), (fk, .inl (ck, 8, .inl gk)), (fd, .inl (cd, 24000, .inl gd)), (fs, .inl (cs, 8, .inl gs)), (fz, .inl (cz, 8, .inl gz)), (bt, .inr (5, [.ref ta, .ref wi, .ref se, .ref re, .int eb, .int sn, .int sp, .int sa, .int sm])), (se, .inr (1, [.int s0, .int s1, .int s2, .ref fl, .int s4, .ref un, .int s6, .int s7, .int s8, .int s9])), (fl, .inr (2, [.ref fn, .ref fk, .ref fd, .ref fs, .ref fz, .int 0])), (wi, .inr (4, [.ref wb, .int 0]))] H := hP
      have hD : va_D A [(fn, .inl (cn, 96, .inl gn)), (fk, .inl (ck, 8, .inl gk)), (fd, .inl (cd, 24000, .inl gd)), (fs, .inl (cs, 8, .inl gs)), (fz, .inl (cz, 8, .inl gz)), (bt, .inr (5, [.ref ta, .ref wi, .ref se, .ref re, .int eb, .int sn, .int sp, .int sa, .int sm])), (se, .inr (1, [.int s0, .int s1, .int s2, .ref fl, .int s4, .ref un, .int s6, .int s7, .int s8, .int s9])), (fl, .inr (2, [.ref fn, .ref fk, .ref fd, .ref fs, .ref fz, .int 0])), (wi, .inr (4, [.ref wb, .int 0]))] := hD
      obtain rfl : r_3 = 1 := hw.2.2 (by decide) (by decide)
      refine lv_if_ne (tgt := 20) hx hb dX7_made_15 (by decide) (fun c_4 => ?_) (fun c_4 => absurd c_4 (by decide))
      refine lv_aload_n hx hb dX7_made_20 rfl (lv_at hl 0 rfl) ?_
      refine va_get (D := (dC, dI)) (ci := 5) (v := .ref se) (C := RX7) (T := TX7) (N := 9) hx hb hts iX7 hown hK hP 5 rfl rfl 2 (by decide) (hts (.fieldLink RX7 26 "BatchTransfer" "sender" "LBatchTransfer$Sender;") (by decide +kernel)) (fun _ h9 => h9) rfl dX7_made_21 ?_
      refine va_get (D := (dC, dI)) (ci := 1) (v := .ref fl) (C := RX1) (T := TX1) (N := 10) hx hb hts iX1 hown hK hP 6 rfl rfl 3 (by decide) (hts (.fieldLink RX7 53 "BatchTransfer$Sender" "files" "LBatchTransfer$Shelf;") (by decide +kernel)) (fun _ h9 => h9) rfl dX7_made_24 ?_
      refine lv_astore_n (lv' := [(3, .ref fl), (0, .ref bt), (1, .int n0), (2, .int n1)]) hx hb dX7_made_27 rfl hl (by decide) rfl (fun ls hl => ?_)
      refine lv_aload_n hx hb dX7_made_28 rfl (lv_at hl 0 rfl) ?_
      have hPc := hP.sub (ws' := [(fl, .inr (2, [.ref fn, .ref fk, .ref fd, .ref fs, .ref fz, .int 0])), (fk, .inl (ck, 8, .inl gk)), (fs, .inl (cs, 8, .inl gs)), (fz, .inl (cz, 8, .inl gz))]) [7, 1, 3, 4] rfl
      have hDc := hD.sub (ws' := [(fl, .inr (2, [.ref fn, .ref fk, .ref fd, .ref fs, .ref fz, .int 0])), (fk, .inl (ck, 8, .inl gk)), (fs, .inl (cs, 8, .inl gs)), (fz, .inl (cz, 8, .inl gz))]) [7, 1, 3, 4] (by decide) rfl
      have hKc := hK.sub (tys' := [(ck, .int), (cs, .int), (cz, .int)]) [1, 3, 4] rfl
      have hFc := va_free (wc := [(fl, .inr (2, [.ref fn, .ref fk, .ref fd, .ref fs, .ref fz, .int 0])), (fk, .inl (ck, 8, .inl gk)), (fs, .inl (cs, 8, .inl gs)), (fz, .inl (cz, 8, .inl gz))]) hD hS hA [7, 1, 3, 4] rfl
      refine va_callv (va_runV (As := []) (rest := []) ⟨hx, hb, hml, hown, hts⟩ (k_open l dC dI fl fn fk fd fs fz ck cs cz gk gs gz H.size) (cwV 0 hts gX7_made_X2_open rfl rfl rfl (by decide +kernel) ⟨Nat.le_of_ble_eq_true rfl, Nat.le_of_ble_eq_true rfl⟩) ⟨fun a U g mk q => by obtain ⟨q0, q1, qP, qK, qD⟩ := q; exact ⟨q0, q1, qP, va_K.moved (u := U) (U := U.calling g mk a) (Vm.Alike.refl U.vm) qK, qD⟩, va_recv hKc hPc (ci := 2) (q0 := 0) rfl rfl, fun U hU hW => ⟨rfl, by rw [hU], by rw [hU]; exact hPc, va_K.moved hW.alike hKc, hDc.weaken (fun _ _ _ _ => trivial)⟩⟩ rfl rfl hl.1 rfl (lv_room (Nat.le_of_ble_eq_true rfl)) dX7_made_29 ⟨show 0 + 0 ≤ 0 by omega, show 0 + 0 ≤ 0 by omega⟩) hS (fun q _ h => hFc q h) hFc (fun u t H1 locs ht hvm hw hB hz1 hk1 hS => ?_)
      obtain ⟨hk_6, hs_7, hz_8⟩ := u
      obtain ⟨hP1, hK1, hD1⟩ := hB
      rw [ht] at hP1
      have hK1 := va_K.moved hvm.symm hK1
      try dsimp only at hw
      obtain ⟨hP, hD⟩ := va_join (wr := [(fn, .inl (cn, 96, .inl gn)), (fd, .inl (cd, 24000, .inl gd)), (bt, .inr (5, [.ref ta, .ref wi, .ref se, .ref re, .int eb, .int sn, .int sp, .int sa, .int sm])), (se, .inr (1, [.int s0, .int s1, .int s2, .ref fl, .int s4, .ref un, .int s6, .int s7, .int s8, .int s9])), (wi, .inr (4, [.ref wb, .int 0]))]) (w1 := [(fl, .inr (2, [.ref fn, .ref fk, .ref fd, .ref fs, .ref fz, .int 1])), (fk, .inl (ck, 8, .inl hk_6)), (fs, .inl (cs, 8, .inl hs_7)), (fz, .inl (cz, 8, .inl hz_8))]) hP hD [7, 1, 3, 4] [0, 2, 5, 6, 8] rfl rfl (by decide) (by decide) hk1 hFc hP1 hD1
      have hK := (hK.sub (tys' := [(cn, .byte), (cd, .byte)]) [0, 2] rfl).app hK1
      generalize H1 = H at hP hS ⊢
      have hK : va_K (dC, dI) vwCl [(cn, .byte), (cd, .byte), (ck, .int), (cs, .int), (cz, .int)] s := hK
      have hP : va_P (dC, dI) vwCl [(fn, .inl (cn, 96, .inl gn)), (fd, .inl (cd, 24000, .inl gd)), (bt, .inr (5, [.ref ta, .ref wi, .ref se, .ref re, .int eb, .int sn, .int sp, .int sa, .int sm])), (se, .inr (1, [.int s0, .int s1, .int s2, .ref fl, .int s4, .ref un, .int s6, .int s7, .int s8, .int s9])), (wi, .inr (4, [.ref wb, .int 0])), (fl, .inr (2, [.ref fn, .ref fk, .ref fd, .ref fs, .ref fz, .int 1])), (fk, .inl (ck, 8, .inl hk_6)), (fs, .inl (cs, 8, .inl hs_7)), (fz, .inl (cz, 8, .inl hz_8))] H := hP
      have hD : va_D A [(fn, .inl (cn, 96, .inl gn)), (fd, .inl (cd, 24000, .inl gd)), (bt, .inr (5, [.ref ta, .ref wi, .ref se, .ref re, .int eb, .int sn, .int sp, .int sa, .int sm])), (se, .inr (1, [.int s0, .int s1, .int s2, .ref fl, .int s4, .ref un, .int s6, .int s7, .int s8, .int s9])), (wi, .inr (4, [.ref wb, .int 0])), (fl, .inr (2, [.ref fn, .ref fk, .ref fd, .ref fs, .ref fz, .int 1])), (fk, .inl (ck, 8, .inl hk_6)), (fs, .inl (cs, 8, .inl hs_7)), (fz, .inl (cz, 8, .inl hz_8))] := hD
      have hop := hw
      refine lv_aload_n hx hb dX7_made_32 rfl (lv_at hl 0 rfl) ?_
      refine lv_bipush (v := 102) hx hb dX7_made_33 (by decide) ?_
      have hPc := hP.sub (ws' := [(fl, .inr (2, [.ref fn, .ref fk, .ref fd, .ref fs, .ref fz, .int 1])), (fn, .inl (cn, 96, .inl gn)), (fk, .inl (ck, 8, .inl hk_6))]) [5, 0, 6] rfl
      have hDc := hD.sub (ws' := [(fl, .inr (2, [.ref fn, .ref fk, .ref fd, .ref fs, .ref fz, .int 1])), (fn, .inl (cn, 96, .inl gn)), (fk, .inl (ck, 8, .inl hk_6))]) [5, 0, 6] (by decide) rfl
      have hKc := hK.sub (tys' := [(cn, .byte), (ck, .int)]) [0, 2] rfl
      have hFc := va_free (wc := [(fl, .inr (2, [.ref fn, .ref fk, .ref fd, .ref fs, .ref fz, .int 1])), (fn, .inl (cn, 96, .inl gn)), (fk, .inl (ck, 8, .inl hk_6))]) hD hS hA [5, 0, 6] rfl
      refine va_callv (va_runV (As := [.int 102]) (rest := []) ⟨hx, hb, hml, hown, hts⟩ (k_letter l dC dI fl fn fk fd fs fz cn ck gn hk_6 102 H.size) (cwV 1 hts gX7_made_X2_nameLastByLetter rfl rfl rfl (by decide +kernel) ⟨Nat.le_of_ble_eq_true rfl, Nat.le_of_ble_eq_true rfl⟩) ⟨fun a U g mk q => by obtain ⟨q0, q1, qP, qK, qD⟩ := q; exact ⟨q0, q1, qP, va_K.moved (u := U) (U := U.calling g mk a) (Vm.Alike.refl U.vm) qK, qD⟩, va_recv hKc hPc (ci := 2) (q0 := 0) rfl rfl, fun U hU hW => ⟨rfl, by rw [hU], by rw [hU]; exact hPc, va_K.moved hW.alike hKc, hDc.weaken (fun _ _ _ _ => trivial)⟩⟩ rfl rfl hl.1 rfl (lv_room (Nat.le_of_ble_eq_true rfl)) dX7_made_35 ⟨show 0 + 0 ≤ 0 by omega, show 0 + 0 ≤ 0 by omega⟩) hS (fun q _ h => hFc q h) hFc (fun u t H1 locs ht hvm hw hB hz1 hk1 hS => ?_)
      obtain ⟨hn_10, hk_11⟩ := u
      obtain ⟨hP1, hK1, hD1⟩ := hB
      rw [ht] at hP1
      have hK1 := va_K.moved hvm.symm hK1
      try dsimp only at hw
      obtain ⟨hP, hD⟩ := va_join (wr := [(fd, .inl (cd, 24000, .inl gd)), (bt, .inr (5, [.ref ta, .ref wi, .ref se, .ref re, .int eb, .int sn, .int sp, .int sa, .int sm])), (se, .inr (1, [.int s0, .int s1, .int s2, .ref fl, .int s4, .ref un, .int s6, .int s7, .int s8, .int s9])), (wi, .inr (4, [.ref wb, .int 0])), (fs, .inl (cs, 8, .inl hs_7)), (fz, .inl (cz, 8, .inl hz_8))]) (w1 := [(fl, .inr (2, [.ref fn, .ref fk, .ref fd, .ref fs, .ref fz, .int 1])), (fn, .inl (cn, 96, .inl hn_10)), (fk, .inl (ck, 8, .inl hk_11))]) hP hD [5, 0, 6] [1, 2, 3, 4, 7, 8] rfl rfl (by decide) (by decide) hk1 hFc hP1 hD1
      have hK := (hK.sub (tys' := [(cd, .byte), (cs, .int), (cz, .int)]) [1, 3, 4] rfl).app hK1
      generalize H1 = H at hP hS ⊢
      have hK : va_K (dC, dI) vwCl [(cd, .byte), (cs, .int), (cz, .int), (cn, .byte), (ck, .int)] s := hK
      have hP : va_P (dC, dI) vwCl [(fd, .inl (cd, 24000, .inl gd)), (bt, .inr (5, [.ref ta, .ref wi, .ref se, .ref re, .int eb, .int sn, .int sp, .int sa, .int sm])), (se, .inr (1, [.int s0, .int s1, .int s2, .ref fl, .int s4, .ref un, .int s6, .int s7, .int s8, .int s9])), (wi, .inr (4, [.ref wb, .int 0])), (fs, .inl (cs, 8, .inl hs_7)), (fz, .inl (cz, 8, .inl hz_8)), (fl, .inr (2, [.ref fn, .ref fk, .ref fd, .ref fs, .ref fz, .int 1])), (fn, .inl (cn, 96, .inl hn_10)), (fk, .inl (ck, 8, .inl hk_11))] H := hP
      have hD : va_D A [(fd, .inl (cd, 24000, .inl gd)), (bt, .inr (5, [.ref ta, .ref wi, .ref se, .ref re, .int eb, .int sn, .int sp, .int sa, .int sm])), (se, .inr (1, [.int s0, .int s1, .int s2, .ref fl, .int s4, .ref un, .int s6, .int s7, .int s8, .int s9])), (wi, .inr (4, [.ref wb, .int 0])), (fs, .inl (cs, 8, .inl hs_7)), (fz, .inl (cz, 8, .inl hz_8)), (fl, .inr (2, [.ref fn, .ref fk, .ref fd, .ref fs, .ref fz, .int 1])), (fn, .inl (cn, 96, .inl hn_10)), (fk, .inl (ck, 8, .inl hk_11))] := hD
      refine lv_iconst (v := 0) hx hb dX7_made_38 (by decide) ?_
      refine lv_istore (lv' := [(4, .int 0), (3, .ref fl), (0, .ref bt), (1, .int n0), (2, .int n1)]) hx hb dX7_made_39 hl (by decide) rfl (fun ls hl => ?_)
      obtain ⟨nn, hnn, en⟩ := nI_of2 (M := 3000) (n := 3000) (by decide) c_1 (Int32.not_lt.mp c_2)
      refine k_mloop hop.1 nn hnn en hx hb hml hown hts hA (fun gd9 gz9 H locs ls hgz9 hK hP hD hS hl => ?_) nn 0 (Nat.zero_add _) gd hz_8 (by rw [nI_0]; exact hop.2) H locs hK hP hD hS ls (by rw [nI_0]; exact hl)
      refine lv_aload_n hx hb dX7_made_63 rfl (lv_at hl 1 rfl) ?_
      refine va_get (D := (dC, dI)) (ci := 2) (v := .int 1) (C := RX2) (T := TX2) (N := 6) hx hb hts iX2 hown hK hP 6 rfl rfl 5 (by decide) (hts (.fieldLink RX7 73 "BatchTransfer$Shelf" "count" "I") (by decide +kernel)) (fun _ h9 => h9) rfl dX7_made_64 ?_
      refine lv_iconst (v := 1) hx hb dX7_made_67 (by decide) ?_
      refine lv_isub hx hb dX7_made_68 ?_
      refine lv_topi (fun x_12 ex_12 => ?_)
      obtain rfl : x_12 = 0 := ex_12.trans (by decide)
      exact W.iret (v := 0) hx hb hr (fun t ht hW => ⟨⟨0, (), rfl, ⟨fun h => absurd h c_1, fun h => absurd h c_2, fun _ _ => rfl⟩, trivial⟩, hS.F ht⟩) hS.2.2 dX7_made_69
