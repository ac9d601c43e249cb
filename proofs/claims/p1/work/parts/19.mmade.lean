set_option maxHeartbeats 4000000 in
set_option maxRecDepth 100000 in
theorem m_mloop {p : Program} {l : Launch} {e : Env} {s : State} {m : MethodId} {args : Array Value} {below : List Frame} {meth : Method} {c : Code} {Q : State → Prop} {A : Nat → Prop} {dC : Nat → ClassId} {dI : Nat → Nat → Nat} {mo m1 m2 m5 m6 m7 m8 m10 m11 m12 m13 m14 m18 m34 m35 m36 m37 : Nat} {n0 n1 : Int32} {k5 k6 k7 k8 : ClassId} {f_7 f_9 f_11 : Nat → Int32} (nn : Nat) (hnn : nn ≤ 3000) (en : n0 = nI nn) (hx : p.tables.exec = Jvm.exec) (hb : c.code = cX8_made) (hml : c.maxLocals = 4) (hown : s.vm.findClass RX8 = some m.cls) (hts : ∀ w ∈ wsX8_made, w.before args s = true) (hA : ∀ q : Nat, s.heap.size ≤ q → A q) (kk : ∀ (gd : Nat → Int32) (H : Heap) (locs : List Loc) (ls : Array Slot), va_K (dC, dI) vwCl [(k5, .byte), (k6, .int), (k7, .byte), (k8, .int)] s → va_P (dC, dI) vwCl [(mo, .inr (6, [.int 0, .ref m1, .ref m2, .int 0, .int 0, .ref m5, .ref m6, .ref m7, .ref m8, .int 0, .ref m10, .ref m11, .ref m12, .ref m13, .ref m14, .int 0, .int 0, .int 0, .ref m18, .int 0, .int 0, .int 0, .int 0, .int 0, .int 0, .int 0, .int 0, .int 0, .int 0, .int 0, .int 0, .int 0, .int 0, .int 0, .ref m34, .ref m35, .ref m36, .ref m37, .int 0])), (m5, .inl (k5, 96, .inl f_7)), (m6, .inl (k6, 8, .inl f_9)), (m7, .inl (k7, 24000, .inl gd)), (m8, .inl (k8, 8, .inl f_11))] H → va_D A [(mo, .inr (6, [.int 0, .ref m1, .ref m2, .int 0, .int 0, .ref m5, .ref m6, .ref m7, .ref m8, .int 0, .ref m10, .ref m11, .ref m12, .ref m13, .ref m14, .int 0, .int 0, .int 0, .ref m18, .int 0, .int 0, .int 0, .int 0, .int 0, .int 0, .int 0, .int 0, .int 0, .int 0, .int 0, .int 0, .int 0, .int 0, .int 0, .ref m34, .ref m35, .ref m36, .ref m37, .int 0])), (m5, .inl (k5, 96, .inl f_7)), (m6, .inl (k6, 8, .inl f_9)), (m7, .inl (k7, 24000, .inl gd)), (m8, .inl (k8, 8, .inl f_11))] → va_S A s.heap H locs → lv_has ls 4 [(3, .int (nI nn)), (0, .ref mo), (1, .int n0), (2, .int n1)] → W p l e ({ frames := 0, cells := 0, slots := 0, locals := 0 } : Room) s m args below meth c H locs 0 0 Q (F0 m 102 ls [])) : ∀ (n i : Nat), i + n = nn → ∀ (gd : Nat → Int32), ∀ (H : Heap) (locs : List Loc), va_K (dC, dI) vwCl [(k5, .byte), (k6, .int), (k7, .byte), (k8, .int)] s → va_P (dC, dI) vwCl [(mo, .inr (6, [.int 0, .ref m1, .ref m2, .int 0, .int 0, .ref m5, .ref m6, .ref m7, .ref m8, .int 0, .ref m10, .ref m11, .ref m12, .ref m13, .ref m14, .int 0, .int 0, .int 0, .ref m18, .int 0, .int 0, .int 0, .int 0, .int 0, .int 0, .int 0, .int 0, .int 0, .int 0, .int 0, .int 0, .int 0, .int 0, .int 0, .ref m34, .ref m35, .ref m36, .ref m37, .int 0])), (m5, .inl (k5, 96, .inl f_7)), (m6, .inl (k6, 8, .inl f_9)), (m7, .inl (k7, 24000, .inl gd)), (m8, .inl (k8, 8, .inl f_11))] H → va_D A [(mo, .inr (6, [.int 0, .ref m1, .ref m2, .int 0, .int 0, .ref m5, .ref m6, .ref m7, .ref m8, .int 0, .ref m10, .ref m11, .ref m12, .ref m13, .ref m14, .int 0, .int 0, .int 0, .ref m18, .int 0, .int 0, .int 0, .int 0, .int 0, .int 0, .int 0, .int 0, .int 0, .int 0, .int 0, .int 0, .int 0, .int 0, .int 0, .ref m34, .ref m35, .ref m36, .ref m37, .int 0])), (m5, .inl (k5, 96, .inl f_7)), (m6, .inl (k6, 8, .inl f_9)), (m7, .inl (k7, 24000, .inl gd)), (m8, .inl (k8, 8, .inl f_11))] → va_S A s.heap H locs → ∀ (ls : Array Slot), lv_has ls 4 [(3, .int (nI i)), (0, .ref mo), (1, .int n0), (2, .int n1)] → W p l e ({ frames := 0, cells := 0, slots := 0, locals := 0 } : Room) s m args below meth c H locs 0 0 Q (F0 m 70 ls []) := by
  have iX8 : ∀ w ∈ wsX80, w ∈ wsX8_made := by decide +kernel
  intro n
  induction n with
  | zero =>
    intro i hi gd  H locs hK hP hD hS ls hl
    refine lv_iload_n hx hb dX8_made_70 rfl (lv_at hl 0 rfl) ?_
    refine lv_iload_n hx hb dX8_made_71 rfl (lv_at hl 2 rfl) ?_
    have hin : i = nn := by omega
    subst hin
    exact lv_icmp_ge (tgt := 102) hx hb dX8_made_72 (by decide) (fun _ => kk gd H locs ls  hK hP hD hS hl) (fun c9 => absurd (by rw [en]; exact nI_le (Nat.le_refl _) (by omega)) c9)
  | succ n ih =>
    intro i hi gd  H locs hK hP hD hS ls hl
    refine lv_iload_n hx hb dX8_made_70 rfl (lv_at hl 0 rfl) ?_
    refine lv_iload_n hx hb dX8_made_71 rfl (lv_at hl 2 rfl) ?_
    refine lv_icmp_ge (tgt := 102) hx hb dX8_made_72 (by decide) (fun c9 => absurd (by rw [en] at c9; exact c9) (nI_ge (by omega) (by omega))) (fun c9 => ?_)
    refine lv_aload_n hx hb dX8_made_75 rfl (lv_at hl 1 rfl) ?_
    refine va_get (D := (dC, dI)) (ci := 6) (v := .ref m7) (C := RX8) (T := TX8) (N := 39) hx hb hts iX8 hown hK hP 0 rfl rfl 7 (by decide) (hts (.fieldLink RX8 33 "BatchTransferModel" "data" "[B") (by decide +kernel)) (fun _ h9 => h9) rfl dX8_made_76 ?_
    refine lv_sipush (v := 3000) hx hb dX8_made_79 (by decide) ?_
    refine lv_aload_n hx hb dX8_made_82 rfl (lv_at hl 1 rfl) ?_
    refine va_get (D := (dC, dI)) (ci := 6) (v := .int 0) (C := RX8) (T := TX8) (N := 39) hx hb hts iX8 hown hK hP 0 rfl rfl 4 (by decide) (hts (.fieldLink RX8 24 "BatchTransferModel" "files" "I") (by decide +kernel)) (fun _ h9 => h9) rfl dX8_made_83 ?_
    refine lv_imul hx hb dX8_made_86 ?_
    refine lv_topi (fun x_501 ex_501 => ?_)
    obtain rfl : x_501 = 0 := ex_501.trans (by decide)
    refine lv_iload_n hx hb dX8_made_87 rfl (lv_at hl 0 rfl) ?_
    refine lv_iadd hx hb dX8_made_88 ?_
    refine lv_topi (fun x_502 ex_502 => ?_)
    obtain rfl : x_502 = nI i := by rw [ex_502]; exact Int32.zero_add _
    refine lv_iload_n hx hb dX8_made_89 rfl (lv_at hl 3 rfl) ?_
    refine lv_iconst (v := 5) hx hb dX8_made_90 (by decide) ?_
    refine lv_iload_n hx hb dX8_made_91 rfl (lv_at hl 0 rfl) ?_
    refine lv_imul hx hb dX8_made_92 ?_
    refine lv_topi (fun x_503 ex_503 => ?_)
    refine lv_iadd hx hb dX8_made_93 ?_
    refine lv_topi (fun x_504 ex_504 => ?_)
    refine lv_i2b hx hb dX8_made_94 rfl ?_
    refine lv_topi (fun x_505 ex_505 => ?_)
    have h_506 : vp_in (nI i) 24000 := vp_in_nI (by omega) (by decide)
    refine va_bast hx hb hK hP hD hS 3 2 rfl rfl h_506 dX8_made_95 (fun H locs hP hD hS => ?_)
    obtain ⟨f_507, ef_507⟩ : ∃ g : Nat → Int32, g = upd gd (nI i : Int32).toNatClampNeg (vp_nar .byte x_505) := ⟨_, rfl⟩
    have hP : va_P (dC, dI) vwCl [(mo, .inr (6, [.int 0, .ref m1, .ref m2, .int 0, .int 0, .ref m5, .ref m6, .ref m7, .ref m8, .int 0, .ref m10, .ref m11, .ref m12, .ref m13, .ref m14, .int 0, .int 0, .int 0, .ref m18, .int 0, .int 0, .int 0, .int 0, .int 0, .int 0, .int 0, .int 0, .int 0, .int 0, .int 0, .int 0, .int 0, .int 0, .int 0, .ref m34, .ref m35, .ref m36, .ref m37, .int 0])), (m5, .inl (k5, 96, .inl f_7)), (m6, .inl (k6, 8, .inl f_9)), (m7, .inl (k7, 24000, .inl f_507)), (m8, .inl (k8, 8, .inl f_11))] H := by rw [ef_507]; exact hP
    have hD : va_D A [(mo, .inr (6, [.int 0, .ref m1, .ref m2, .int 0, .int 0, .ref m5, .ref m6, .ref m7, .ref m8, .int 0, .ref m10, .ref m11, .ref m12, .ref m13, .ref m14, .int 0, .int 0, .int 0, .ref m18, .int 0, .int 0, .int 0, .int 0, .int 0, .int 0, .int 0, .int 0, .int 0, .int 0, .int 0, .int 0, .int 0, .int 0, .int 0, .ref m34, .ref m35, .ref m36, .ref m37, .int 0])), (m5, .inl (k5, 96, .inl f_7)), (m6, .inl (k6, 8, .inl f_9)), (m7, .inl (k7, 24000, .inl f_507)), (m8, .inl (k8, 8, .inl f_11))] := by rw [ef_507]; exact hD
    obtain ⟨x_508, ex_508⟩ : ∃ y : Int32, y = nI i + 1 := ⟨_, rfl⟩
    refine lv_iinc (v := x_508) (lv' := [(3, .int x_508), (0, .ref mo), (1, .int n0), (2, .int n1)]) hx hb dX8_made_96 hl (k := 0) rfl (by rw [ex_508]; rfl) (by decide) rfl (fun ls hl => ?_)
    refine lv_goto (tgt := 70) hx hb dX8_made_99 (by decide) ?_
    have hc9 : x_508 = nI (i + 1) := ex_508.trans (nI_1 i)
    rw [hc9] at hl
    exact ih (i + 1) (by omega) f_507  H locs (hK.sub [0, 1, 2, 3] rfl) (hP.sub [0, 1, 2, 3, 4] rfl) (hD.sub [0, 1, 2, 3, 4] (by decide) rfl) hS ls (lv_sub hl [0, 1, 2, 3] rfl)

set_option maxHeartbeats 4000000 in
set_option maxRecDepth 100000 in
theorem m_made (l : Launch) (dC : Nat → ClassId) (dI : Nat → Nat → Nat) (mo m1 m2 m5 m6 m7 m8 m10 m11 m12 m13 m14 m18 m34 m35 m36 m37 : Nat) (k5 k6 k7 k8 : ClassId) (gn gk gd gl : Nat → Int32) (n0 n1 : Int32) (sz : Nat) : Met l yX8_made wsX8_made ({ frames := 0, cells := 0, slots := 0, locals := 0 }) (va_Pc [.ref mo, .int n0, .int n1] (fun U => U.heap.size = sz ∧ va_P (dC, dI) vwCl [(mo, .inr (6, [.int 0, .ref m1, .ref m2, .int 0, .int 0, .ref m5, .ref m6, .ref m7, .ref m8, .int 0, .ref m10, .ref m11, .ref m12, .ref m13, .ref m14, .int 0, .int 0, .int 0, .ref m18, .int 0, .int 0, .int 0, .int 0, .int 0, .int 0, .int 0, .int 0, .int 0, .int 0, .int 0, .int 0, .int 0, .int 0, .int 0, .ref m34, .ref m35, .ref m36, .ref m37, .int 0])), (m5, .inl (k5, 96, .inl gn)), (m6, .inl (k6, 8, .inl gk)), (m7, .inl (k7, 24000, .inl gd)), (m8, .inl (k8, 8, .inl gl))] U.heap ∧ va_K (dC, dI) vwCl [(k5, .byte), (k6, .int), (k7, .byte), (k8, .int)] U ∧ va_D (fun _ => True) [(mo, .inr (6, [.int 0, .ref m1, .ref m2, .int 0, .int 0, .ref m5, .ref m6, .ref m7, .ref m8, .int 0, .ref m10, .ref m11, .ref m12, .ref m13, .ref m14, .int 0, .int 0, .int 0, .ref m18, .int 0, .int 0, .int 0, .int 0, .int 0, .int 0, .int 0, .int 0, .int 0, .int 0, .int 0, .int 0, .int 0, .int 0, .int 0, .ref m34, .ref m35, .ref m36, .ref m37, .int 0])), (m5, .inl (k5, 96, .inl gn)), (m6, .inl (k6, 8, .inl gk)), (m7, .inl (k7, 24000, .inl gd)), (m8, .inl (k8, 8, .inl gl))])) (va_Qi (fun (r : Int32) (_ : Unit) => (n0 < 0 → r = -1) ∧ (3000 < n0 → r = -1) ∧ (¬ n0 < 0 → ¬ 3000 < n0 → r = 0)) (fun (_ : Unit) (_ : State) => True) (va_A [(mo, .inr (6, [.int 0, .ref m1, .ref m2, .int 0, .int 0, .ref m5, .ref m6, .ref m7, .ref m8, .int 0, .ref m10, .ref m11, .ref m12, .ref m13, .ref m14, .int 0, .int 0, .int 0, .ref m18, .int 0, .int 0, .int 0, .int 0, .int 0, .int 0, .int 0, .int 0, .int 0, .int 0, .int 0, .int 0, .int 0, .int 0, .int 0, .ref m34, .ref m35, .ref m36, .ref m37, .int 0])), (m5, .inl (k5, 96, .inl gn)), (m6, .inl (k6, 8, .inl gk)), (m7, .inl (k7, 24000, .inl gd)), (m8, .inl (k8, 8, .inl gl))] sz)) 0 0 (va_A [(mo, .inr (6, [.int 0, .ref m1, .ref m2, .int 0, .int 0, .ref m5, .ref m6, .ref m7, .ref m8, .int 0, .ref m10, .ref m11, .ref m12, .ref m13, .ref m14, .int 0, .int 0, .int 0, .ref m18, .int 0, .int 0, .int 0, .int 0, .int 0, .int 0, .int 0, .int 0, .int 0, .int 0, .int 0, .int 0, .int 0, .int 0, .int 0, .ref m34, .ref m35, .ref m36, .ref m37, .int 0])), (m5, .inl (k5, 96, .inl gn)), (m6, .inl (k6, 8, .inl gk)), (m7, .inl (k7, 24000, .inl gd)), (m8, .inl (k8, 8, .inl gl))] sz) := by
  refine Met.ofW (cc := cX8_made) (maxL := 4) (ret := (some .int)) (by decide) rfl ?_
  intro p e s m args below meth c s₁ B hml hv
  obtain ⟨rfl, hsz, hP, hK, hD0⟩ := hv
  have hx := B.exec
  have hb := B.bytes
  have hr := B.returns
  have hts := atoms_spec (ws := wsX8_made) B.pre
  have hown : s.vm.findClass RX8 = some m.cls := findClass_of_methodNamed B.named
  have hlocks := B.notSynchronized
  subst hsz
  have hD := hD0.self (sz := s.heap.size)
  generalize hAe : va_A [(mo, .inr (6, [.int 0, .ref m1, .ref m2, .int 0, .int 0, .ref m5, .ref m6, .ref m7, .ref m8, .int 0, .ref m10, .ref m11, .ref m12, .ref m13, .ref m14, .int 0, .int 0, .int 0, .ref m18, .int 0, .int 0, .int 0, .int 0, .int 0, .int 0, .int 0, .int 0, .int 0, .int 0, .int 0, .int 0, .int 0, .int 0, .int 0, .ref m34, .ref m35, .ref m36, .ref m37, .int 0])), (m5, .inl (k5, 96, .inl gn)), (m6, .inl (k6, 8, .inl gk)), (m7, .inl (k7, 24000, .inl gd)), (m8, .inl (k8, 8, .inl gl))] s.heap.size = A at hD ⊢
  have hA : ∀ q : Nat, s.heap.size ≤ q → A q := fun q h => by rw [← hAe]; exact Or.inr h
  have hS : va_S A s.heap s.heap [] := va_S.rf
  have hP : va_P (dC, dI) vwCl [(mo, .inr (6, [.int 0, .ref m1, .ref m2, .int 0, .int 0, .ref m5, .ref m6, .ref m7, .ref m8, .int 0, .ref m10, .ref m11, .ref m12, .ref m13, .ref m14, .int 0, .int 0, .int 0, .ref m18, .int 0, .int 0, .int 0, .int 0, .int 0, .int 0, .int 0, .int 0, .int 0, .int 0, .int 0, .int 0, .int 0, .int 0, .int 0, .ref m34, .ref m35, .ref m36, .ref m37, .int 0])), (m5, .inl (k5, 96, .inl gn)), (m6, .inl (k6, 8, .inl gk)), (m7, .inl (k7, 24000, .inl gd)), (m8, .inl (k8, 8, .inl gl))] s.heap := hP
  have hl := lv_entry ([.ref mo, .int n0, .int n1]) (n := 4) (Nat.le_of_ble_eq_true rfl)
  rw [lg_entry_eq]
  generalize (lg_sl ([.ref mo, .int n0, .int n1]) ++ List.replicate (4 - (lg_sl ([.ref mo, .int n0, .int n1])).length) Slot.unset).toArray = ls at hl ⊢
  have hl : lv_has ls 4 [(0, .ref mo), (1, .int n0), (2, .int n1)] := hl
  have iX8 : ∀ w ∈ wsX80, w ∈ wsX8_made := by decide +kernel
  refine lv_aload_n hx hb dX8_made_0 rfl (lv_at hl 0 rfl) ?_
  refine lv_iconst (v := 0) hx hb dX8_made_1 (by decide) ?_
  refine va_put (D := (dC, dI)) (ci := 6) (v := .int 0) (ty := .int) (C := RX8) (T := TX8) (N := 39) hx hb hts iX8 tyX8 tyX8_ok nmX8 hown hK hP hD hS 0 rfl rfl 0 (by decide) (hts (.fieldLink RX8 7 "BatchTransferModel" "thrownCode" "I") (by decide +kernel)) (fun _ h9 => h9) rfl (by decide +kernel) rfl rfl (Nat.le_of_ble_eq_true rfl) dX8_made_2 (fun H locs hP hD hS => ?_)
  have hP : va_P (dC, dI) vwCl [(mo, .inr (6, [.int 0, .ref m1, .ref m2, .int 0, .int 0, .ref m5, .ref m6, .ref m7, .ref m8, .int 0, .ref m10, .ref m11, .ref m12, .ref m13, .ref m14, .int 0, .int 0, .int 0, .ref m18, .int 0, .int 0, .int 0, .int 0, .int 0, .int 0, .int 0, .int 0, .int 0, .int 0, .int 0, .int 0, .int 0, .int 0, .int 0, .ref m34, .ref m35, .ref m36, .ref m37, .int 0])), (m5, .inl (k5, 96, .inl gn)), (m6, .inl (k6, 8, .inl gk)), (m7, .inl (k7, 24000, .inl gd)), (m8, .inl (k8, 8, .inl gl))] H := hP
  have hD : va_D A [(mo, .inr (6, [.int 0, .ref m1, .ref m2, .int 0, .int 0, .ref m5, .ref m6, .ref m7, .ref m8, .int 0, .ref m10, .ref m11, .ref m12, .ref m13, .ref m14, .int 0, .int 0, .int 0, .ref m18, .int 0, .int 0, .int 0, .int 0, .int 0, .int 0, .int 0, .int 0, .int 0, .int 0, .int 0, .int 0, .int 0, .int 0, .int 0, .ref m34, .ref m35, .ref m36, .ref m37, .int 0])), (m5, .inl (k5, 96, .inl gn)), (m6, .inl (k6, 8, .inl gk)), (m7, .inl (k7, 24000, .inl gd)), (m8, .inl (k8, 8, .inl gl))] := hD
  refine lv_iload_n hx hb dX8_made_5 rfl (lv_at hl 1 rfl) ?_
  refine lv_if_lt (tgt := 32) hx hb dX8_made_6 (by decide) (fun c_1 => ?_) (fun c_1 => ?_)
  · refine lv_iconst (v := (-1)) hx hb dX8_made_32 (by decide) ?_
    exact W.iret (v := (-1)) hx hb hr (fun t ht hW => ⟨⟨(-1), (), rfl, ⟨fun _ => rfl, fun _ => rfl, fun h => absurd c_1 h⟩, trivial⟩, hS.F ht⟩) hS.2.2 dX8_made_33
  · refine lv_iload_n hx hb dX8_made_9 rfl (lv_at hl 1 rfl) ?_
    refine lv_sipush (v := 3000) hx hb dX8_made_10 (by decide) ?_
    refine lv_icmp_gt (tgt := 32) hx hb dX8_made_13 (by decide) (fun c_2 => ?_) (fun c_2 => ?_)
    · refine lv_iconst (v := (-1)) hx hb dX8_made_32 (by decide) ?_
      exact W.iret (v := (-1)) hx hb hr (fun t ht hW => ⟨⟨(-1), (), rfl, ⟨fun _ => rfl, fun _ => rfl, fun _ h => absurd c_2 h⟩, trivial⟩, hS.F ht⟩) hS.2.2 dX8_made_33
    · refine lv_aload_n hx hb dX8_made_16 rfl (lv_at hl 0 rfl) ?_
      refine va_get (D := (dC, dI)) (ci := 6) (v := .int 0) (C := RX8) (T := TX8) (N := 39) hx hb hts iX8 hown hK hP 0 rfl rfl 4 (by decide) (hts (.fieldLink RX8 24 "BatchTransferModel" "files" "I") (by decide +kernel)) (fun _ h9 => h9) rfl dX8_made_17 ?_
      refine lv_bipush (v := 8) hx hb dX8_made_20 (by decide) ?_
      refine lv_icmp_eq (tgt := 32) hx hb dX8_made_22 (by decide) (fun c_3 => absurd c_3 (by decide)) (fun c_3 => ?_)
      refine lv_aload_n hx hb dX8_made_25 rfl (lv_at hl 0 rfl) ?_
      refine va_get (D := (dC, dI)) (ci := 6) (v := .int 0) (C := RX8) (T := TX8) (N := 39) hx hb hts iX8 hown hK hP 0 rfl rfl 15 (by decide) (hts (.fieldLink RX8 57 "BatchTransferModel" "on" "Z") (by decide +kernel)) (fun _ h9 => h9) rfl dX8_made_26 ?_
      refine lv_if_eq (tgt := 34) hx hb dX8_made_29 (by decide) (fun c_4 => ?_) (fun c_4 => absurd (by decide) c_4)
      refine lv_aload_n hx hb dX8_made_34 rfl (lv_at hl 0 rfl) ?_
      refine va_get (D := (dC, dI)) (ci := 6) (v := .ref m5) (C := RX8) (T := TX8) (N := 39) hx hb hts iX8 hown hK hP 0 rfl rfl 5 (by decide) (hts (.fieldLink RX8 27 "BatchTransferModel" "name" "[B") (by decide +kernel)) (fun _ h9 => h9) rfl dX8_made_35 ?_
      refine lv_bipush (v := 12) hx hb dX8_made_38 (by decide) ?_
      refine lv_aload_n hx hb dX8_made_40 rfl (lv_at hl 0 rfl) ?_
      refine va_get (D := (dC, dI)) (ci := 6) (v := .int 0) (C := RX8) (T := TX8) (N := 39) hx hb hts iX8 hown hK hP 0 rfl rfl 4 (by decide) (hts (.fieldLink RX8 24 "BatchTransferModel" "files" "I") (by decide +kernel)) (fun _ h9 => h9) rfl dX8_made_41 ?_
      refine lv_imul hx hb dX8_made_44 ?_
      refine lv_topi (fun x_5 ex_5 => ?_)
      obtain rfl : x_5 = 0 := ex_5.trans (by decide)
      refine lv_bipush (v := 102) hx hb dX8_made_45 (by decide) ?_
      have h_6 : vp_in (0) 96 := by unfold vp_in; decide +kernel
      refine va_bast hx hb hK hP hD hS 1 0 rfl rfl h_6 dX8_made_47 (fun H locs hP hD hS => ?_)
      obtain ⟨f_7, ef_7⟩ : ∃ g : Nat → Int32, g = upd gn (0 : Int32).toNatClampNeg (vp_nar .byte 102) := ⟨_, rfl⟩
      have hP : va_P (dC, dI) vwCl [(mo, .inr (6, [.int 0, .ref m1, .ref m2, .int 0, .int 0, .ref m5, .ref m6, .ref m7, .ref m8, .int 0, .ref m10, .ref m11, .ref m12, .ref m13, .ref m14, .int 0, .int 0, .int 0, .ref m18, .int 0, .int 0, .int 0, .int 0, .int 0, .int 0, .int 0, .int 0, .int 0, .int 0, .int 0, .int 0, .int 0, .int 0, .int 0, .ref m34, .ref m35, .ref m36, .ref m37, .int 0])), (m5, .inl (k5, 96, .inl f_7)), (m6, .inl (k6, 8, .inl gk)), (m7, .inl (k7, 24000, .inl gd)), (m8, .inl (k8, 8, .inl gl))] H := by rw [ef_7]; exact hP
      have hD : va_D A [(mo, .inr (6, [.int 0, .ref m1, .ref m2, .int 0, .int 0, .ref m5, .ref m6, .ref m7, .ref m8, .int 0, .ref m10, .ref m11, .ref m12, .ref m13, .ref m14, .int 0, .int 0, .int 0, .ref m18, .int 0, .int 0, .int 0, .int 0, .int 0, .int 0, .int 0, .int 0, .int 0, .int 0, .int 0, .int 0, .int 0, .int 0, .int 0, .ref m34, .ref m35, .ref m36, .ref m37, .int 0])), (m5, .inl (k5, 96, .inl f_7)), (m6, .inl (k6, 8, .inl gk)), (m7, .inl (k7, 24000, .inl gd)), (m8, .inl (k8, 8, .inl gl))] := by rw [ef_7]; exact hD
      refine lv_aload_n hx hb dX8_made_48 rfl (lv_at hl 0 rfl) ?_
      refine va_get (D := (dC, dI)) (ci := 6) (v := .ref m6) (C := RX8) (T := TX8) (N := 39) hx hb hts iX8 hown hK hP 0 rfl rfl 6 (by decide) (hts (.fieldLink RX8 30 "BatchTransferModel" "nameLen" "[I") (by decide +kernel)) (fun _ h9 => h9) rfl dX8_made_49 ?_
      refine lv_aload_n hx hb dX8_made_52 rfl (lv_at hl 0 rfl) ?_
      refine va_get (D := (dC, dI)) (ci := 6) (v := .int 0) (C := RX8) (T := TX8) (N := 39) hx hb hts iX8 hown hK hP 0 rfl rfl 4 (by decide) (hts (.fieldLink RX8 24 "BatchTransferModel" "files" "I") (by decide +kernel)) (fun _ h9 => h9) rfl dX8_made_53 ?_
      refine lv_iconst (v := 1) hx hb dX8_made_56 (by decide) ?_
      have h_8 : vp_in (0) 8 := by unfold vp_in; decide +kernel
      refine va_iast hx hb hK hP hD hS 2 1 rfl rfl h_8 dX8_made_57 (fun H locs hP hD hS => ?_)
      obtain ⟨f_9, ef_9⟩ : ∃ g : Nat → Int32, g = upd gk (0 : Int32).toNatClampNeg 1 := ⟨_, rfl⟩
      have hP : va_P (dC, dI) vwCl [(mo, .inr (6, [.int 0, .ref m1, .ref m2, .int 0, .int 0, .ref m5, .ref m6, .ref m7, .ref m8, .int 0, .ref m10, .ref m11, .ref m12, .ref m13, .ref m14, .int 0, .int 0, .int 0, .ref m18, .int 0, .int 0, .int 0, .int 0, .int 0, .int 0, .int 0, .int 0, .int 0, .int 0, .int 0, .int 0, .int 0, .int 0, .int 0, .ref m34, .ref m35, .ref m36, .ref m37, .int 0])), (m5, .inl (k5, 96, .inl f_7)), (m6, .inl (k6, 8, .inl f_9)), (m7, .inl (k7, 24000, .inl gd)), (m8, .inl (k8, 8, .inl gl))] H := by rw [ef_9]; exact hP
      have hD : va_D A [(mo, .inr (6, [.int 0, .ref m1, .ref m2, .int 0, .int 0, .ref m5, .ref m6, .ref m7, .ref m8, .int 0, .ref m10, .ref m11, .ref m12, .ref m13, .ref m14, .int 0, .int 0, .int 0, .ref m18, .int 0, .int 0, .int 0, .int 0, .int 0, .int 0, .int 0, .int 0, .int 0, .int 0, .int 0, .int 0, .int 0, .int 0, .int 0, .ref m34, .ref m35, .ref m36, .ref m37, .int 0])), (m5, .inl (k5, 96, .inl f_7)), (m6, .inl (k6, 8, .inl f_9)), (m7, .inl (k7, 24000, .inl gd)), (m8, .inl (k8, 8, .inl gl))] := by rw [ef_9]; exact hD
      refine lv_aload_n hx hb dX8_made_58 rfl (lv_at hl 0 rfl) ?_
      refine va_get (D := (dC, dI)) (ci := 6) (v := .ref m8) (C := RX8) (T := TX8) (N := 39) hx hb hts iX8 hown hK hP 0 rfl rfl 8 (by decide) (hts (.fieldLink RX8 36 "BatchTransferModel" "dataLen" "[I") (by decide +kernel)) (fun _ h9 => h9) rfl dX8_made_59 ?_
      refine lv_aload_n hx hb dX8_made_62 rfl (lv_at hl 0 rfl) ?_
      refine va_get (D := (dC, dI)) (ci := 6) (v := .int 0) (C := RX8) (T := TX8) (N := 39) hx hb hts iX8 hown hK hP 0 rfl rfl 4 (by decide) (hts (.fieldLink RX8 24 "BatchTransferModel" "files" "I") (by decide +kernel)) (fun _ h9 => h9) rfl dX8_made_63 ?_
      refine lv_iload_n hx hb dX8_made_66 rfl (lv_at hl 1 rfl) ?_
      have h_10 : vp_in (0) 8 := by unfold vp_in; decide +kernel
      refine va_iast hx hb hK hP hD hS 4 3 rfl rfl h_10 dX8_made_67 (fun H locs hP hD hS => ?_)
      obtain ⟨f_11, ef_11⟩ : ∃ g : Nat → Int32, g = upd gl (0 : Int32).toNatClampNeg n0 := ⟨_, rfl⟩
      have hP : va_P (dC, dI) vwCl [(mo, .inr (6, [.int 0, .ref m1, .ref m2, .int 0, .int 0, .ref m5, .ref m6, .ref m7, .ref m8, .int 0, .ref m10, .ref m11, .ref m12, .ref m13, .ref m14, .int 0, .int 0, .int 0, .ref m18, .int 0, .int 0, .int 0, .int 0, .int 0, .int 0, .int 0, .int 0, .int 0, .int 0, .int 0, .int 0, .int 0, .int 0, .int 0, .ref m34, .ref m35, .ref m36, .ref m37, .int 0])), (m5, .inl (k5, 96, .inl f_7)), (m6, .inl (k6, 8, .inl f_9)), (m7, .inl (k7, 24000, .inl gd)), (m8, .inl (k8, 8, .inl f_11))] H := by rw [ef_11]; exact hP
      have hD : va_D A [(mo, .inr (6, [.int 0, .ref m1, .ref m2, .int 0, .int 0, .ref m5, .ref m6, .ref m7, .ref m8, .int 0, .ref m10, .ref m11, .ref m12, .ref m13, .ref m14, .int 0, .int 0, .int 0, .ref m18, .int 0, .int 0, .int 0, .int 0, .int 0, .int 0, .int 0, .int 0, .int 0, .int 0, .int 0, .int 0, .int 0, .int 0, .int 0, .ref m34, .ref m35, .ref m36, .ref m37, .int 0])), (m5, .inl (k5, 96, .inl f_7)), (m6, .inl (k6, 8, .inl f_9)), (m7, .inl (k7, 24000, .inl gd)), (m8, .inl (k8, 8, .inl f_11))] := by rw [ef_11]; exact hD
      refine lv_iconst (v := 0) hx hb dX8_made_68 (by decide) ?_
      refine lv_istore_n (lv' := [(3, .int 0), (0, .ref mo), (1, .int n0), (2, .int n1)]) hx hb dX8_made_69 rfl hl (by decide) rfl (fun ls hl => ?_)
      obtain ⟨nn, hnn, en⟩ := nI_of2 (M := 3000) (n := 3000) (by decide) c_1 (Int32.not_lt.mp c_2)
      refine m_mloop nn hnn en hx hb hml hown hts hA (fun gd9 H locs ls hK hP hD hS hl => ?_) nn 0 (Nat.zero_add _) gd H locs hK hP hD hS ls (by rw [nI_0]; exact hl)
      refine lv_aload_n hx hb dX8_made_102 rfl (lv_at hl 1 rfl) ?_
      refine lv_dup hx hb dX8_made_103 rfl ?_
      refine va_get (D := (dC, dI)) (ci := 6) (v := .int 0) (C := RX8) (T := TX8) (N := 39) hx hb hts iX8 hown hK hP 0 rfl rfl 4 (by decide) (hts (.fieldLink RX8 24 "BatchTransferModel" "files" "I") (by decide +kernel)) (fun _ h9 => h9) rfl dX8_made_104 ?_
      refine lv_iconst (v := 1) hx hb dX8_made_107 (by decide) ?_
      refine lv_iadd hx hb dX8_made_108 ?_
      refine lv_topi (fun x_12 ex_12 => ?_)
      obtain rfl : x_12 = 1 := ex_12.trans (by decide)
      refine va_put (D := (dC, dI)) (ci := 6) (v := .int 1) (ty := .int) (C := RX8) (T := TX8) (N := 39) hx hb hts iX8 tyX8 tyX8_ok nmX8 hown hK hP hD hS 0 rfl rfl 4 (by decide) (hts (.fieldLink RX8 24 "BatchTransferModel" "files" "I") (by decide +kernel)) (fun _ h9 => h9) rfl (by decide +kernel) rfl rfl (Nat.le_of_ble_eq_true rfl) dX8_made_109 (fun H locs hP hD hS => ?_)
      have hP : va_P (dC, dI) vwCl [(mo, .inr (6, [.int 0, .ref m1, .ref m2, .int 0, .int 1, .ref m5, .ref m6, .ref m7, .ref m8, .int 0, .ref m10, .ref m11, .ref m12, .ref m13, .ref m14, .int 0, .int 0, .int 0, .ref m18, .int 0, .int 0, .int 0, .int 0, .int 0, .int 0, .int 0, .int 0, .int 0, .int 0, .int 0, .int 0, .int 0, .int 0, .int 0, .ref m34, .ref m35, .ref m36, .ref m37, .int 0])), (m5, .inl (k5, 96, .inl f_7)), (m6, .inl (k6, 8, .inl f_9)), (m7, .inl (k7, 24000, .inl gd9)), (m8, .inl (k8, 8, .inl f_11))] H := hP
      have hD : va_D A [(mo, .inr (6, [.int 0, .ref m1, .ref m2, .int 0, .int 1, .ref m5, .ref m6, .ref m7, .ref m8, .int 0, .ref m10, .ref m11, .ref m12, .ref m13, .ref m14, .int 0, .int 0, .int 0, .ref m18, .int 0, .int 0, .int 0, .int 0, .int 0, .int 0, .int 0, .int 0, .int 0, .int 0, .int 0, .int 0, .int 0, .int 0, .int 0, .ref m34, .ref m35, .ref m36, .ref m37, .int 0])), (m5, .inl (k5, 96, .inl f_7)), (m6, .inl (k6, 8, .inl f_9)), (m7, .inl (k7, 24000, .inl gd9)), (m8, .inl (k8, 8, .inl f_11))] := hD
      refine lv_aload_n hx hb dX8_made_112 rfl (lv_at hl 1 rfl) ?_
      refine va_get (D := (dC, dI)) (ci := 6) (v := .int 1) (C := RX8) (T := TX8) (N := 39) hx hb hts iX8 hown hK hP 0 rfl rfl 4 (by decide) (hts (.fieldLink RX8 24 "BatchTransferModel" "files" "I") (by decide +kernel)) (fun _ h9 => h9) rfl dX8_made_113 ?_
      refine lv_iconst (v := 1) hx hb dX8_made_116 (by decide) ?_
      refine lv_isub hx hb dX8_made_117 ?_
      refine lv_topi (fun x_13 ex_13 => ?_)
      obtain rfl : x_13 = 0 := ex_13.trans (by decide)
      exact W.iret (v := 0) hx hb hr (fun t ht hW => ⟨⟨0, (), rfl, ⟨fun h => absurd h c_1, fun h => absurd h c_2, fun _ _ => rfl⟩, trivial⟩, hS.F ht⟩) hS.2.2 dX8_made_118
