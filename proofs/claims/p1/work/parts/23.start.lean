set_option maxHeartbeats 4000000 in
set_option maxRecDepth 100000 in
theorem whole_start {p : Program} {e : Env} {s : State} {m : MethodId} {below : List Frame} {meth : Method} {c : Code} (l : Launch) (hlt : l.stackTraces = false) {b L : Nat} {xs : Nat → Int32} (hL : L ≤ 6) (C0 : lw_At p s m meth c b L xs) : W p l e room_1 s m #[Value.ref b] below meth c s.heap [] 0 0 (lw_Z below #[Value.ref b] s) (entryFrame m ([Value.ref b] : List Value).toArray 7) := by
  obtain ⟨hx, hb, hr, hml, hown, hts0, hX, hbl, hlocks, hgv⟩ := id C0
  have hb : c.code = cL_law := hb
  have hown : s.vm.findClass RL = some m.cls := hown
  have hts : ∀ w ∈ wsL_law, w.before #[Value.ref b] s = true := fun w h => hts0 w (wsL_law_in w h)
  obtain ⟨A, hAe⟩ : ∃ A : Nat → Prop, A = fun q : Nat => s.heap.size ≤ q := ⟨_, rfl⟩
  have hA : ∀ q : Nat, s.heap.size ≤ q → A q := fun q h => by rw [hAe]; exact h
  have hAf : ∀ q : Nat, A q → s.heap.size ≤ q := fun q h => by rw [hAe] at h; exact h
  have hbA : ¬ A b := fun h => absurd (hAf b h) (Nat.not_le.mpr hbl)
  have hAo : ∀ a : Nat, a < s.heap.size → ¬ A a := fun a h1 h2 => absurd (hAf a h2) (Nat.not_le.mpr h1)
  have hfl := flat_of_before _ hgv
  obtain ⟨c09, iS0, hKn0⟩ := u_known (C := RX0) (T := TX0) (N := 9) (n := 9) hts0 inX0 (hts0 (.instantiable RX0 9) (by decide +kernel))
  obtain ⟨c19, iS1, hKn1⟩ := u_known (C := RX1) (T := TX1) (N := 10) (n := 10) hts0 inX1 (hts0 (.instantiable RX1 10) (by decide +kernel))
  obtain ⟨c29, iS2, hKn2⟩ := u_known (C := RX2) (T := TX2) (N := 6) (n := 6) hts0 inX2 (hts0 (.instantiable RX2 6) (by decide +kernel))
  obtain ⟨c39, iS3, hKn3⟩ := u_known (C := RX4) (T := TX4) (N := 2) (n := 2) hts0 inX4 (hts0 (.instantiable RX4 2) (by decide +kernel))
  obtain ⟨c49, iS4, hKn4⟩ := u_known (C := RX6) (T := TX6) (N := 2) (n := 2) hts0 inX6 (hts0 (.instantiable RX6 2) (by decide +kernel))
  obtain ⟨c59, iS5, hKn5⟩ := u_known (C := RX7) (T := TX7) (N := 9) (n := 9) hts0 inX7 (hts0 (.instantiable RX7 9) (by decide +kernel))
  obtain ⟨c69, iS6, hKn6⟩ := u_known (C := RX8) (T := TX8) (N := 39) (n := 39) hts0 inX8 (hts0 (.instantiable RX8 39) (by decide +kernel))
  obtain ⟨dC, dI, hKc⟩ : ∃ (dC : Nat → ClassId) (dI : Nat → Nat → Nat), ∀ (k : Nat) (q : vw_C), vwCl[k]? = some q → u_Kn s q.1 q.2.1 q.2.2 (dC k) (dI k) := by
    refine ⟨fun k => if k = 0 then c09 else if k = 1 then c19 else if k = 2 then c29 else if k = 3 then c39 else if k = 4 then c49 else if k = 5 then c59 else c69, fun k => if k = 0 then iS0 else if k = 1 then iS1 else if k = 2 then iS2 else if k = 3 then iS3 else if k = 4 then iS4 else if k = 5 then iS5 else iS6, ?_⟩
    intro k q hq
    match k, hq with
    | 0, hq => cases hq; exact hKn0
    | 1, hq => cases hq; exact hKn1
    | 2, hq => cases hq; exact hKn2
    | 3, hq => cases hq; exact hKn3
    | 4, hq => cases hq; exact hKn4
    | 5, hq => cases hq; exact hKn5
    | 6, hq => cases hq; exact hKn6
    | k + 7, hq => simp [vwCl] at hq
  have hS : va_S A s.heap s.heap [] := va_S.rf
  have hK : va_K (dC, dI) vwCl [] s := ⟨hKc, fun k q h => by simp at h⟩
  have hP : va_P (dC, dI) vwCl [] s.heap := fun k q h => by simp at h
  have hD : va_D A [] := ⟨fun i j p q h => by simp at h, fun k q h => by simp at h⟩
  have hX0 : vx_Zq Bundle.tN "UNASSIGNED_STACK" Bundle.steD A s s.heap := vx_Zqof (hts0 (.laysStatic Bundle.tN "UNASSIGNED_STACK" Bundle.steD) (by decide +kernel)) (hts0 (.initialized Bundle.tN) (by decide +kernel)) (hfl _ (by decide +kernel)) hAo
  have hX1 : vx_Zq Bundle.tN "SUPPRESSED_SENTINEL" Bundle.listD A s s.heap := vx_Zqof (hts0 (.laysStatic Bundle.tN "SUPPRESSED_SENTINEL" Bundle.listD) (by decide +kernel)) (hts0 (.initialized Bundle.tN) (by decide +kernel)) (hfl _ (by decide +kernel)) hAo
  have hX2 : va_Nw (.declares (Bundle.init0 "java/lang/RuntimeException")) s := va_Nw.of rfl (hts0 (.declares (Bundle.init0 "java/lang/RuntimeException")) (by decide +kernel))
  have hX3 : va_Nw (.declares (Bundle.init0 "java/lang/Exception")) s := va_Nw.of rfl (hts0 (.declares (Bundle.init0 "java/lang/Exception")) (by decide +kernel))
  have hX4 : va_Nw (.declares (Bundle.init0 Bundle.tN)) s := va_Nw.of rfl (hts0 (.declares (Bundle.init0 Bundle.tN)) (by decide +kernel))
  have hX5 : va_Nw (.castable "java/util/NoSuchElementException" "java/util/NoSuchElementException") s := va_Nw.of rfl (hts0 (.castable "java/util/NoSuchElementException" "java/util/NoSuchElementException") (by decide +kernel))
  have hN0 : va_Nw (.methodLinkNest RX7 11 yX4_init "BatchTransfer") s := va_Nw.of rfl (hts0 (.methodLinkNest RX7 11 yX4_init "BatchTransfer") (by decide +kernel))
  have hN1 : va_Nw (.methodLinkNest RX7 18 yX6_init "BatchTransfer") s := va_Nw.of rfl (hts0 (.methodLinkNest RX7 18 yX6_init "BatchTransfer") (by decide +kernel))
  have hN2 : va_Nw (.methodLinkNest RX7 25 yX1_init "BatchTransfer") s := va_Nw.of rfl (hts0 (.methodLinkNest RX7 25 yX1_init "BatchTransfer") (by decide +kernel))
  have hN3 : va_Nw (.methodLinkNest RX7 32 yX0_init "BatchTransfer") s := va_Nw.of rfl (hts0 (.methodLinkNest RX7 32 yX0_init "BatchTransfer") (by decide +kernel))
  have hN4 : va_Nw (.methodLinkNest RX1 3 yX3_init "BatchTransfer") s := va_Nw.of rfl (hts0 (.methodLinkNest RX1 3 yX3_init "BatchTransfer") (by decide +kernel))
  have hN5 : va_Nw (.methodLinkNest RX0 3 yX3_init "BatchTransfer") s := va_Nw.of rfl (hts0 (.methodLinkNest RX0 3 yX3_init "BatchTransfer") (by decide +kernel))
  obtain ⟨un, cU, cellU, kU, hun, -⟩ := Cond.exactly_spec (show (Cond.exactly (.static "BatchTransfer$Unit" "HEAD" "LBatchTransfer$Unit;") "BatchTransfer$Unit").holds #[Value.ref b] s none s [] = true from hfl _ (by decide +kernel))
  have hZU : va_Z "BatchTransfer$Unit" "HEAD" "LBatchTransfer$Unit;" (.ref un) A s s.heap := va_Zref (hts0 (.laysStatic "BatchTransfer$Unit" "HEAD" "LBatchTransfer$Unit;") (by decide +kernel)) (hts0 (.initialized "BatchTransfer$Unit") (by decide +kernel)) hun hAo
  have hl := lv_entry ([.ref b]) (n := 7) (Nat.le_of_ble_eq_true rfl)
  rw [lg_entry_eq]
  generalize (lg_sl ([.ref b]) ++ List.replicate (7 - (lg_sl ([.ref b])).length) Slot.unset).toArray = ls at hl ⊢
  have hl : lv_has ls 7 [(0, .ref b)] := hl
  have iX7 : ∀ w ∈ wsX70, w ∈ wsL_law := inlX7
  have iX8 : ∀ w ∈ wsX80, w ∈ wsL_law := inlX8
  refine va_new (ci := 5) (fs := [.null, .null, .null, .null, .int 0, .int 0, .int 0, .int 0, .int 0]) (C := RX7) (T := TX7) (N := 9) hx hb hts iX7 tyX7 tyX7_ok hown (hts (.classLink RL 8 RX7) (by decide +kernel)) (hts (.instantiable RX7 9) (by decide +kernel)) (hts (.initialized RX7) (by decide +kernel)) hK hP hD hS hA rfl (fun j hj => by rcases (show j = 0 ∨ j = 1 ∨ j = 2 ∨ j = 3 ∨ j = 4 ∨ j = 5 ∨ j = 6 ∨ j = 7 ∨ j = 8 by omega) with rfl | rfl | rfl | rfl | rfl | rfl | rfl | rfl | rfl <;> rfl) (show 0 + 1 ≤ 600002 by omega) (show 0 + 9 ≤ 7302232 by omega) dL_law_0 (fun q_1 H hP hD hS => ?_)
  refine W.widen (k := 1) (n := 9) (by omega) (by omega) ?_
  have hP : va_P (dC, dI) vwCl [(q_1, .inr (5, [.null, .null, .null, .null, .int 0, .int 0, .int 0, .int 0, .int 0]))] H := hP
  have hD : va_D A [(q_1, .inr (5, [.null, .null, .null, .null, .int 0, .int 0, .int 0, .int 0, .int 0]))] := hD
  refine lv_dup hx hb dL_law_3 rfl ?_
  have hPc := hP.sub (ws' := [(q_1, .inr (5, [.null, .null, .null, .null, .int 0, .int 0, .int 0, .int 0, .int 0]))]) [0] rfl
  have hDc := hD.sub (ws' := [(q_1, .inr (5, [.null, .null, .null, .null, .int 0, .int 0, .int 0, .int 0, .int 0]))]) [0] (by decide) rfl
  have hKc := hK.sub (tys' := []) [] rfl
  have hFc := va_free (wc := [(q_1, .inr (5, [.null, .null, .null, .null, .int 0, .int 0, .int 0, .int 0, .int 0]))]) hD hS hA [0] rfl
  refine va_callv (va_runI (As := []) (rest := [.ref q_1]) ⟨hx, hb, hml, hown, hts⟩ (k_bt l dC dI q_1 un H.size) (cwI 0 hts gL_law_X7_init rfl rfl rfl (hts (.initialized RX7) (by decide +kernel)) (hts (.methodLink RL 19 yX7_init) (by decide +kernel)) (hts (.instanceMethod yX7_init) (by decide +kernel)) rfl (by decide +kernel) ⟨Nat.le_of_ble_eq_true rfl, Nat.le_of_ble_eq_true rfl⟩) ⟨fun a U g mk q => by obtain ⟨q0, q1, qP, qK, qD, qX0, qX1, qX2, qX3, qX4, qX5, qX6⟩ := q; exact ⟨q0, q1, qP, va_K.moved (u := U) (U := U.calling g mk a) (Vm.Alike.refl U.vm) qK, qD, va_Nw.same rfl rfl qX0, va_Nw.same rfl rfl qX1, va_Nw.same rfl rfl qX2, va_Nw.same rfl rfl qX3, va_Nw.same rfl rfl qX4, va_Nw.same rfl rfl qX5, qX6.moved (Vm.Alike.refl U.vm)⟩, fun U hU hW => ⟨rfl, by rw [hU], by rw [hU]; exact hPc, va_K.moved hW.alike hKc, hDc.weaken (fun _ _ _ _ => trivial), va_Nw.warmM hW hN0, va_Nw.warmM hW hN1, va_Nw.warmM hW hN2, va_Nw.warmM hW hN3, va_Nw.warmM hW hN4, va_Nw.warmM hW hN5, by rw [hU]; exact ((hZU.kept (fun a h1 h2 => hS.2.1 a h1 h2)).narrow hFc).moved hW.alike⟩⟩ rfl rfl hl.1 rfl (lv_room (Nat.le_of_ble_eq_true rfl)) dL_law_4 ⟨show 1 + 18 ≤ 600002 by omega, show 9 + 52980 ≤ 7302232 by omega⟩) hS (fun q _ h => hFc q h) hFc (fun u t H1 locs ht hvm hw hB hz1 hk1 hS => ?_)
  obtain ⟨ta_3, tb_4, wi_5, wb_6, se_7, fl_8, fn_9, fk_10, fd_11, fs_12, fz_13, re_14, ar_15, an_16, ak_17, ad_18, as__19, az_20, cT_21, cW_22, c1_23, c2_24, c3_25, c4_26, c5_27, d1_28, d2_29, d3_30, d4_31, d5_32, hP1, hK1, hD1⟩ := hB
  rw [ht] at hP1
  have hK1 := va_K.moved hvm.symm hK1
  try dsimp only at hw
  obtain ⟨hP, hD⟩ := va_join (wr := []) (w1 := [(q_1, .inr (5, [.ref ta_3, .ref wi_5, .ref se_7, .ref re_14, .int 0, .int 0, .int 0, .int 0, .int 0])), (ta_3, .inr (3, [.ref tb_4, .int 0])), (tb_4, .inl (cT_21, 3100, .inl (fun _ => 0))), (wi_5, .inr (4, [.ref wb_6, .int 0])), (wb_6, .inl (cW_22, 1029, .inl (fun _ => 0))), (se_7, .inr (1, [.int 0, .int 0, .int 0, .ref fl_8, .int 0, .ref un, .int 0, .int 0, .int 0, .int 0])), (fl_8, .inr (2, [.ref fn_9, .ref fk_10, .ref fd_11, .ref fs_12, .ref fz_13, .int 0])), (fn_9, .inl (c1_23, 96, .inl (fun _ => 0))), (fk_10, .inl (c2_24, 8, .inl (fun _ => 0))), (fd_11, .inl (c3_25, 24000, .inl (fun _ => 0))), (fs_12, .inl (c4_26, 8, .inl (fun _ => 0))), (fz_13, .inl (c5_27, 8, .inl (fun _ => 0))), (re_14, .inr (0, [.int 0, .int 0, .int 0, .ref ar_15, .int 0, .int 0, .int 0, .int 0, .int 0])), (ar_15, .inr (2, [.ref an_16, .ref ak_17, .ref ad_18, .ref as__19, .ref az_20, .int 0])), (an_16, .inl (d1_28, 96, .inl (fun _ => 0))), (ak_17, .inl (d2_29, 8, .inl (fun _ => 0))), (ad_18, .inl (d3_30, 24576, .inl (fun _ => 0))), (as__19, .inl (d4_31, 8, .inl (fun _ => 0))), (az_20, .inl (d5_32, 8, .inl (fun _ => 0)))]) hP hD [0] [] rfl rfl (by decide) (by decide) hk1 hFc hP1 hD1
  have hK := (hK.sub (tys' := []) [] rfl).app hK1
  generalize H1 = H at hP hS ⊢
  have hK : va_K (dC, dI) vwCl [(cT_21, .byte), (cW_22, .byte), (c1_23, .byte), (c2_24, .int), (c3_25, .byte), (c4_26, .int), (c5_27, .int), (d1_28, .byte), (d2_29, .int), (d3_30, .byte), (d4_31, .int), (d5_32, .int)] s := hK
  have hP : va_P (dC, dI) vwCl [(q_1, .inr (5, [.ref ta_3, .ref wi_5, .ref se_7, .ref re_14, .int 0, .int 0, .int 0, .int 0, .int 0])), (ta_3, .inr (3, [.ref tb_4, .int 0])), (tb_4, .inl (cT_21, 3100, .inl (fun _ => 0))), (wi_5, .inr (4, [.ref wb_6, .int 0])), (wb_6, .inl (cW_22, 1029, .inl (fun _ => 0))), (se_7, .inr (1, [.int 0, .int 0, .int 0, .ref fl_8, .int 0, .ref un, .int 0, .int 0, .int 0, .int 0])), (fl_8, .inr (2, [.ref fn_9, .ref fk_10, .ref fd_11, .ref fs_12, .ref fz_13, .int 0])), (fn_9, .inl (c1_23, 96, .inl (fun _ => 0))), (fk_10, .inl (c2_24, 8, .inl (fun _ => 0))), (fd_11, .inl (c3_25, 24000, .inl (fun _ => 0))), (fs_12, .inl (c4_26, 8, .inl (fun _ => 0))), (fz_13, .inl (c5_27, 8, .inl (fun _ => 0))), (re_14, .inr (0, [.int 0, .int 0, .int 0, .ref ar_15, .int 0, .int 0, .int 0, .int 0, .int 0])), (ar_15, .inr (2, [.ref an_16, .ref ak_17, .ref ad_18, .ref as__19, .ref az_20, .int 0])), (an_16, .inl (d1_28, 96, .inl (fun _ => 0))), (ak_17, .inl (d2_29, 8, .inl (fun _ => 0))), (ad_18, .inl (d3_30, 24576, .inl (fun _ => 0))), (as__19, .inl (d4_31, 8, .inl (fun _ => 0))), (az_20, .inl (d5_32, 8, .inl (fun _ => 0)))] H := hP
  have hD : va_D A [(q_1, .inr (5, [.ref ta_3, .ref wi_5, .ref se_7, .ref re_14, .int 0, .int 0, .int 0, .int 0, .int 0])), (ta_3, .inr (3, [.ref tb_4, .int 0])), (tb_4, .inl (cT_21, 3100, .inl (fun _ => 0))), (wi_5, .inr (4, [.ref wb_6, .int 0])), (wb_6, .inl (cW_22, 1029, .inl (fun _ => 0))), (se_7, .inr (1, [.int 0, .int 0, .int 0, .ref fl_8, .int 0, .ref un, .int 0, .int 0, .int 0, .int 0])), (fl_8, .inr (2, [.ref fn_9, .ref fk_10, .ref fd_11, .ref fs_12, .ref fz_13, .int 0])), (fn_9, .inl (c1_23, 96, .inl (fun _ => 0))), (fk_10, .inl (c2_24, 8, .inl (fun _ => 0))), (fd_11, .inl (c3_25, 24000, .inl (fun _ => 0))), (fs_12, .inl (c4_26, 8, .inl (fun _ => 0))), (fz_13, .inl (c5_27, 8, .inl (fun _ => 0))), (re_14, .inr (0, [.int 0, .int 0, .int 0, .ref ar_15, .int 0, .int 0, .int 0, .int 0, .int 0])), (ar_15, .inr (2, [.ref an_16, .ref ak_17, .ref ad_18, .ref as__19, .ref az_20, .int 0])), (an_16, .inl (d1_28, 96, .inl (fun _ => 0))), (ak_17, .inl (d2_29, 8, .inl (fun _ => 0))), (ad_18, .inl (d3_30, 24576, .inl (fun _ => 0))), (as__19, .inl (d4_31, 8, .inl (fun _ => 0))), (az_20, .inl (d5_32, 8, .inl (fun _ => 0)))] := hD
  refine W.widen (k := 19) (n := 52989) (by omega) (by omega) ?_
  refine lv_astore_n (lv' := [(1, .ref q_1), (0, .ref b)]) hx hb dL_law_7 rfl hl (by decide) rfl (fun ls hl => ?_)
  refine va_new (ci := 6) (fs := [.int 0, .null, .null, .int 0, .int 0, .null, .null, .null, .null, .int 0, .null, .null, .null, .null, .null, .int 0, .int 0, .int 0, .null, .int 0, .int 0, .int 0, .int 0, .int 0, .int 0, .int 0, .int 0, .int 0, .int 0, .int 0, .int 0, .int 0, .int 0, .int 0, .null, .null, .null, .null, .int 0]) (C := RX8) (T := TX8) (N := 39) hx hb hts iX8 tyX8 tyX8_ok hown (hts (.classLink RL 20 RX8) (by decide +kernel)) (hts (.instantiable RX8 39) (by decide +kernel)) (hts (.initialized RX8) (by decide +kernel)) hK hP hD hS hA rfl (fun j hj => by rcases (show j = 0 ∨ j = 1 ∨ j = 2 ∨ j = 3 ∨ j = 4 ∨ j = 5 ∨ j = 6 ∨ j = 7 ∨ j = 8 ∨ j = 9 ∨ j = 10 ∨ j = 11 ∨ j = 12 ∨ j = 13 ∨ j = 14 ∨ j = 15 ∨ j = 16 ∨ j = 17 ∨ j = 18 ∨ j = 19 ∨ j = 20 ∨ j = 21 ∨ j = 22 ∨ j = 23 ∨ j = 24 ∨ j = 25 ∨ j = 26 ∨ j = 27 ∨ j = 28 ∨ j = 29 ∨ j = 30 ∨ j = 31 ∨ j = 32 ∨ j = 33 ∨ j = 34 ∨ j = 35 ∨ j = 36 ∨ j = 37 ∨ j = 38 by omega) with rfl | rfl | rfl | rfl | rfl | rfl | rfl | rfl | rfl | rfl | rfl | rfl | rfl | rfl | rfl | rfl | rfl | rfl | rfl | rfl | rfl | rfl | rfl | rfl | rfl | rfl | rfl | rfl | rfl | rfl | rfl | rfl | rfl | rfl | rfl | rfl | rfl | rfl | rfl <;> rfl) (show 19 + 1 ≤ 600002 by omega) (show 52989 + 39 ≤ 7302232 by omega) dL_law_8 (fun q_33 H hP hD hS => ?_)
  refine W.widen (k := 20) (n := 53028) (by omega) (by omega) ?_
  have hP : va_P (dC, dI) vwCl [(q_1, .inr (5, [.ref ta_3, .ref wi_5, .ref se_7, .ref re_14, .int 0, .int 0, .int 0, .int 0, .int 0])), (ta_3, .inr (3, [.ref tb_4, .int 0])), (tb_4, .inl (cT_21, 3100, .inl (fun _ => 0))), (wi_5, .inr (4, [.ref wb_6, .int 0])), (wb_6, .inl (cW_22, 1029, .inl (fun _ => 0))), (se_7, .inr (1, [.int 0, .int 0, .int 0, .ref fl_8, .int 0, .ref un, .int 0, .int 0, .int 0, .int 0])), (fl_8, .inr (2, [.ref fn_9, .ref fk_10, .ref fd_11, .ref fs_12, .ref fz_13, .int 0])), (fn_9, .inl (c1_23, 96, .inl (fun _ => 0))), (fk_10, .inl (c2_24, 8, .inl (fun _ => 0))), (fd_11, .inl (c3_25, 24000, .inl (fun _ => 0))), (fs_12, .inl (c4_26, 8, .inl (fun _ => 0))), (fz_13, .inl (c5_27, 8, .inl (fun _ => 0))), (re_14, .inr (0, [.int 0, .int 0, .int 0, .ref ar_15, .int 0, .int 0, .int 0, .int 0, .int 0])), (ar_15, .inr (2, [.ref an_16, .ref ak_17, .ref ad_18, .ref as__19, .ref az_20, .int 0])), (an_16, .inl (d1_28, 96, .inl (fun _ => 0))), (ak_17, .inl (d2_29, 8, .inl (fun _ => 0))), (ad_18, .inl (d3_30, 24576, .inl (fun _ => 0))), (as__19, .inl (d4_31, 8, .inl (fun _ => 0))), (az_20, .inl (d5_32, 8, .inl (fun _ => 0))), (q_33, .inr (6, [.int 0, .null, .null, .int 0, .int 0, .null, .null, .null, .null, .int 0, .null, .null, .null, .null, .null, .int 0, .int 0, .int 0, .null, .int 0, .int 0, .int 0, .int 0, .int 0, .int 0, .int 0, .int 0, .int 0, .int 0, .int 0, .int 0, .int 0, .int 0, .int 0, .null, .null, .null, .null, .int 0]))] H := hP
  have hD : va_D A [(q_1, .inr (5, [.ref ta_3, .ref wi_5, .ref se_7, .ref re_14, .int 0, .int 0, .int 0, .int 0, .int 0])), (ta_3, .inr (3, [.ref tb_4, .int 0])), (tb_4, .inl (cT_21, 3100, .inl (fun _ => 0))), (wi_5, .inr (4, [.ref wb_6, .int 0])), (wb_6, .inl (cW_22, 1029, .inl (fun _ => 0))), (se_7, .inr (1, [.int 0, .int 0, .int 0, .ref fl_8, .int 0, .ref un, .int 0, .int 0, .int 0, .int 0])), (fl_8, .inr (2, [.ref fn_9, .ref fk_10, .ref fd_11, .ref fs_12, .ref fz_13, .int 0])), (fn_9, .inl (c1_23, 96, .inl (fun _ => 0))), (fk_10, .inl (c2_24, 8, .inl (fun _ => 0))), (fd_11, .inl (c3_25, 24000, .inl (fun _ => 0))), (fs_12, .inl (c4_26, 8, .inl (fun _ => 0))), (fz_13, .inl (c5_27, 8, .inl (fun _ => 0))), (re_14, .inr (0, [.int 0, .int 0, .int 0, .ref ar_15, .int 0, .int 0, .int 0, .int 0, .int 0])), (ar_15, .inr (2, [.ref an_16, .ref ak_17, .ref ad_18, .ref as__19, .ref az_20, .int 0])), (an_16, .inl (d1_28, 96, .inl (fun _ => 0))), (ak_17, .inl (d2_29, 8, .inl (fun _ => 0))), (ad_18, .inl (d3_30, 24576, .inl (fun _ => 0))), (as__19, .inl (d4_31, 8, .inl (fun _ => 0))), (az_20, .inl (d5_32, 8, .inl (fun _ => 0))), (q_33, .inr (6, [.int 0, .null, .null, .int 0, .int 0, .null, .null, .null, .null, .int 0, .null, .null, .null, .null, .null, .int 0, .int 0, .int 0, .null, .int 0, .int 0, .int 0, .int 0, .int 0, .int 0, .int 0, .int 0, .int 0, .int 0, .int 0, .int 0, .int 0, .int 0, .int 0, .null, .null, .null, .null, .int 0]))] := hD
  refine lv_dup hx hb dL_law_11 rfl ?_
  have hPc := hP.sub (ws' := [(q_33, .inr (6, [.int 0, .null, .null, .int 0, .int 0, .null, .null, .null, .null, .int 0, .null, .null, .null, .null, .null, .int 0, .int 0, .int 0, .null, .int 0, .int 0, .int 0, .int 0, .int 0, .int 0, .int 0, .int 0, .int 0, .int 0, .int 0, .int 0, .int 0, .int 0, .int 0, .null, .null, .null, .null, .int 0]))]) [19] rfl
  have hDc := hD.sub (ws' := [(q_33, .inr (6, [.int 0, .null, .null, .int 0, .int 0, .null, .null, .null, .null, .int 0, .null, .null, .null, .null, .null, .int 0, .int 0, .int 0, .null, .int 0, .int 0, .int 0, .int 0, .int 0, .int 0, .int 0, .int 0, .int 0, .int 0, .int 0, .int 0, .int 0, .int 0, .int 0, .null, .null, .null, .null, .int 0]))]) [19] (by decide) rfl
  have hKc := hK.sub (tys' := []) [] rfl
  have hFc := va_free (wc := [(q_33, .inr (6, [.int 0, .null, .null, .int 0, .int 0, .null, .null, .null, .null, .int 0, .null, .null, .null, .null, .null, .int 0, .int 0, .int 0, .null, .int 0, .int 0, .int 0, .int 0, .int 0, .int 0, .int 0, .int 0, .int 0, .int 0, .int 0, .int 0, .int 0, .int 0, .int 0, .null, .null, .null, .null, .int 0]))]) hD hS hA [19] rfl
  refine va_callv (va_runI (As := []) (rest := [.ref q_33]) ⟨hx, hb, hml, hown, hts⟩ (m_init l dC dI q_33 H.size) (cwI 0 hts gL_law_X8_init rfl rfl rfl (hts (.initialized RX8) (by decide +kernel)) (hts (.methodLink RL 22 yX8_init) (by decide +kernel)) (hts (.instanceMethod yX8_init) (by decide +kernel)) rfl (by decide +kernel) ⟨Nat.le_of_ble_eq_true rfl, Nat.le_of_ble_eq_true rfl⟩) ⟨fun a U g mk q => by obtain ⟨q0, q1, qP, qK, qD⟩ := q; exact ⟨q0, q1, qP, va_K.moved (u := U) (U := U.calling g mk a) (Vm.Alike.refl U.vm) qK, qD⟩, fun U hU hW => ⟨rfl, by rw [hU], by rw [hU]; exact hPc, va_K.moved hW.alike hKc, hDc.weaken (fun _ _ _ _ => trivial)⟩⟩ rfl rfl hl.1 rfl (lv_room (Nat.le_of_ble_eq_true rfl)) dL_law_12 ⟨show 20 + 16 ≤ 600002 by omega, show 53028 + 57880 ≤ 7302232 by omega⟩) hS (fun q _ h => hFc q h) hFc (fun u t H1 locs ht hvm hw hB hz1 hk1 hS => ?_)
  obtain ⟨nb_35, rfl⟩ : ∃ z, z = u := ⟨_, rfl⟩
  obtain ⟨m1_36, m2_37, m5_38, m6_39, m7_40, m8_41, m10_42, m11_43, m12_44, m13_45, m14_46, m18_47, m34_48, m35_49, m36_50, m37_51, k1_52, k2_53, k5_54, k6_55, k7_56, k8_57, k10_58, k11_59, k12_60, k13_61, k14_62, k18_63, k34_64, k35_65, k36_66, k37_67, hP1, hK1, hD1⟩ := hB
  rw [ht] at hP1
  have hK1 := va_K.moved hvm.symm hK1
  try dsimp only at hw
  obtain ⟨hP, hD⟩ := va_join (wr := [(q_1, .inr (5, [.ref ta_3, .ref wi_5, .ref se_7, .ref re_14, .int 0, .int 0, .int 0, .int 0, .int 0])), (ta_3, .inr (3, [.ref tb_4, .int 0])), (tb_4, .inl (cT_21, 3100, .inl (fun _ => 0))), (wi_5, .inr (4, [.ref wb_6, .int 0])), (wb_6, .inl (cW_22, 1029, .inl (fun _ => 0))), (se_7, .inr (1, [.int 0, .int 0, .int 0, .ref fl_8, .int 0, .ref un, .int 0, .int 0, .int 0, .int 0])), (fl_8, .inr (2, [.ref fn_9, .ref fk_10, .ref fd_11, .ref fs_12, .ref fz_13, .int 0])), (fn_9, .inl (c1_23, 96, .inl (fun _ => 0))), (fk_10, .inl (c2_24, 8, .inl (fun _ => 0))), (fd_11, .inl (c3_25, 24000, .inl (fun _ => 0))), (fs_12, .inl (c4_26, 8, .inl (fun _ => 0))), (fz_13, .inl (c5_27, 8, .inl (fun _ => 0))), (re_14, .inr (0, [.int 0, .int 0, .int 0, .ref ar_15, .int 0, .int 0, .int 0, .int 0, .int 0])), (ar_15, .inr (2, [.ref an_16, .ref ak_17, .ref ad_18, .ref as__19, .ref az_20, .int 0])), (an_16, .inl (d1_28, 96, .inl (fun _ => 0))), (ak_17, .inl (d2_29, 8, .inl (fun _ => 0))), (ad_18, .inl (d3_30, 24576, .inl (fun _ => 0))), (as__19, .inl (d4_31, 8, .inl (fun _ => 0))), (az_20, .inl (d5_32, 8, .inl (fun _ => 0)))]) (w1 := [(q_33, .inr (6, [.int 0, .ref m1_36, .ref m2_37, .int 0, .int 0, .ref m5_38, .ref m6_39, .ref m7_40, .ref m8_41, .int 0, .ref m10_42, .ref m11_43, .ref m12_44, .ref m13_45, .ref m14_46, .int 0, .int 0, .int 0, .ref m18_47, .int 0, .int 0, .int 0, .int 0, .int 0, .int 0, .int 0, .int 0, .int 0, .int 0, .int 0, .int 0, .int 0, .int 0, .int 0, .ref m34_48, .ref m35_49, .ref m36_50, .ref m37_51, .int 0])), (m1_36, .inl (k1_52, 16, .inl nb_35)), (m2_37, .inl (k2_53, 3100, .inl (fun _ => 0))), (m5_38, .inl (k5_54, 96, .inl (fun _ => 0))), (m6_39, .inl (k6_55, 8, .inl (fun _ => 0))), (m7_40, .inl (k7_56, 24000, .inl (fun _ => 0))), (m8_41, .inl (k8_57, 8, .inl (fun _ => 0))), (m10_42, .inl (k10_58, 300, .inl (fun _ => 0))), (m11_43, .inl (k11_59, 300, .inl (fun _ => 0))), (m12_44, .inl (k12_60, 300, .inl (fun _ => 0))), (m13_45, .inl (k13_61, 300, .inl (fun _ => 0))), (m14_46, .inl (k14_62, 300, .inl (fun _ => 0))), (m18_47, .inl (k18_63, 1040, .inl (fun _ => 0))), (m34_48, .inl (k34_64, 96, .inl (fun _ => 0))), (m35_49, .inl (k35_65, 8, .inl (fun _ => 0))), (m36_50, .inl (k36_66, 28000, .inl (fun _ => 0))), (m37_51, .inl (k37_67, 8, .inl (fun _ => 0)))]) hP hD [19] [0, 1, 2, 3, 4, 5, 6, 7, 8, 9, 10, 11, 12, 13, 14, 15, 16, 17, 18] rfl rfl (by decide) (by decide) hk1 hFc hP1 hD1
  have hK := (hK.sub (tys' := [(cT_21, .byte), (cW_22, .byte), (c1_23, .byte), (c2_24, .int), (c3_25, .byte), (c4_26, .int), (c5_27, .int), (d1_28, .byte), (d2_29, .int), (d3_30, .byte), (d4_31, .int), (d5_32, .int)]) [0, 1, 2, 3, 4, 5, 6, 7, 8, 9, 10, 11] rfl).app hK1
  generalize H1 = H at hP hS ⊢
  have hK : va_K (dC, dI) vwCl [(cT_21, .byte), (cW_22, .byte), (c1_23, .byte), (c2_24, .int), (c3_25, .byte), (c4_26, .int), (c5_27, .int), (d1_28, .byte), (d2_29, .int), (d3_30, .byte), (d4_31, .int), (d5_32, .int), (k1_52, .int), (k2_53, .byte), (k5_54, .byte), (k6_55, .int), (k7_56, .byte), (k8_57, .int), (k10_58, .int), (k11_59, .int), (k12_60, .int), (k13_61, .int), (k14_62, .int), (k18_63, .byte), (k34_64, .byte), (k35_65, .int), (k36_66, .byte), (k37_67, .int)] s := hK
  have hP : va_P (dC, dI) vwCl [(q_1, .inr (5, [.ref ta_3, .ref wi_5, .ref se_7, .ref re_14, .int 0, .int 0, .int 0, .int 0, .int 0])), (ta_3, .inr (3, [.ref tb_4, .int 0])), (tb_4, .inl (cT_21, 3100, .inl (fun _ => 0))), (wi_5, .inr (4, [.ref wb_6, .int 0])), (wb_6, .inl (cW_22, 1029, .inl (fun _ => 0))), (se_7, .inr (1, [.int 0, .int 0, .int 0, .ref fl_8, .int 0, .ref un, .int 0, .int 0, .int 0, .int 0])), (fl_8, .inr (2, [.ref fn_9, .ref fk_10, .ref fd_11, .ref fs_12, .ref fz_13, .int 0])), (fn_9, .inl (c1_23, 96, .inl (fun _ => 0))), (fk_10, .inl (c2_24, 8, .inl (fun _ => 0))), (fd_11, .inl (c3_25, 24000, .inl (fun _ => 0))), (fs_12, .inl (c4_26, 8, .inl (fun _ => 0))), (fz_13, .inl (c5_27, 8, .inl (fun _ => 0))), (re_14, .inr (0, [.int 0, .int 0, .int 0, .ref ar_15, .int 0, .int 0, .int 0, .int 0, .int 0])), (ar_15, .inr (2, [.ref an_16, .ref ak_17, .ref ad_18, .ref as__19, .ref az_20, .int 0])), (an_16, .inl (d1_28, 96, .inl (fun _ => 0))), (ak_17, .inl (d2_29, 8, .inl (fun _ => 0))), (ad_18, .inl (d3_30, 24576, .inl (fun _ => 0))), (as__19, .inl (d4_31, 8, .inl (fun _ => 0))), (az_20, .inl (d5_32, 8, .inl (fun _ => 0))), (q_33, .inr (6, [.int 0, .ref m1_36, .ref m2_37, .int 0, .int 0, .ref m5_38, .ref m6_39, .ref m7_40, .ref m8_41, .int 0, .ref m10_42, .ref m11_43, .ref m12_44, .ref m13_45, .ref m14_46, .int 0, .int 0, .int 0, .ref m18_47, .int 0, .int 0, .int 0, .int 0, .int 0, .int 0, .int 0, .int 0, .int 0, .int 0, .int 0, .int 0, .int 0, .int 0, .int 0, .ref m34_48, .ref m35_49, .ref m36_50, .ref m37_51, .int 0])), (m1_36, .inl (k1_52, 16, .inl nb_35)), (m2_37, .inl (k2_53, 3100, .inl (fun _ => 0))), (m5_38, .inl (k5_54, 96, .inl (fun _ => 0))), (m6_39, .inl (k6_55, 8, .inl (fun _ => 0))), (m7_40, .inl (k7_56, 24000, .inl (fun _ => 0))), (m8_41, .inl (k8_57, 8, .inl (fun _ => 0))), (m10_42, .inl (k10_58, 300, .inl (fun _ => 0))), (m11_43, .inl (k11_59, 300, .inl (fun _ => 0))), (m12_44, .inl (k12_60, 300, .inl (fun _ => 0))), (m13_45, .inl (k13_61, 300, .inl (fun _ => 0))), (m14_46, .inl (k14_62, 300, .inl (fun _ => 0))), (m18_47, .inl (k18_63, 1040, .inl (fun _ => 0))), (m34_48, .inl (k34_64, 96, .inl (fun _ => 0))), (m35_49, .inl (k35_65, 8, .inl (fun _ => 0))), (m36_50, .inl (k36_66, 28000, .inl (fun _ => 0))), (m37_51, .inl (k37_67, 8, .inl (fun _ => 0)))] H := hP
  have hD : va_D A [(q_1, .inr (5, [.ref ta_3, .ref wi_5, .ref se_7, .ref re_14, .int 0, .int 0, .int 0, .int 0, .int 0])), (ta_3, .inr (3, [.ref tb_4, .int 0])), (tb_4, .inl (cT_21, 3100, .inl (fun _ => 0))), (wi_5, .inr (4, [.ref wb_6, .int 0])), (wb_6, .inl (cW_22, 1029, .inl (fun _ => 0))), (se_7, .inr (1, [.int 0, .int 0, .int 0, .ref fl_8, .int 0, .ref un, .int 0, .int 0, .int 0, .int 0])), (fl_8, .inr (2, [.ref fn_9, .ref fk_10, .ref fd_11, .ref fs_12, .ref fz_13, .int 0])), (fn_9, .inl (c1_23, 96, .inl (fun _ => 0))), (fk_10, .inl (c2_24, 8, .inl (fun _ => 0))), (fd_11, .inl (c3_25, 24000, .inl (fun _ => 0))), (fs_12, .inl (c4_26, 8, .inl (fun _ => 0))), (fz_13, .inl (c5_27, 8, .inl (fun _ => 0))), (re_14, .inr (0, [.int 0, .int 0, .int 0, .ref ar_15, .int 0, .int 0, .int 0, .int 0, .int 0])), (ar_15, .inr (2, [.ref an_16, .ref ak_17, .ref ad_18, .ref as__19, .ref az_20, .int 0])), (an_16, .inl (d1_28, 96, .inl (fun _ => 0))), (ak_17, .inl (d2_29, 8, .inl (fun _ => 0))), (ad_18, .inl (d3_30, 24576, .inl (fun _ => 0))), (as__19, .inl (d4_31, 8, .inl (fun _ => 0))), (az_20, .inl (d5_32, 8, .inl (fun _ => 0))), (q_33, .inr (6, [.int 0, .ref m1_36, .ref m2_37, .int 0, .int 0, .ref m5_38, .ref m6_39, .ref m7_40, .ref m8_41, .int 0, .ref m10_42, .ref m11_43, .ref m12_44, .ref m13_45, .ref m14_46, .int 0, .int 0, .int 0, .ref m18_47, .int 0, .int 0, .int 0, .int 0, .int 0, .int 0, .int 0, .int 0, .int 0, .int 0, .int 0, .int 0, .int 0, .int 0, .int 0, .ref m34_48, .ref m35_49, .ref m36_50, .ref m37_51, .int 0])), (m1_36, .inl (k1_52, 16, .inl nb_35)), (m2_37, .inl (k2_53, 3100, .inl (fun _ => 0))), (m5_38, .inl (k5_54, 96, .inl (fun _ => 0))), (m6_39, .inl (k6_55, 8, .inl (fun _ => 0))), (m7_40, .inl (k7_56, 24000, .inl (fun _ => 0))), (m8_41, .inl (k8_57, 8, .inl (fun _ => 0))), (m10_42, .inl (k10_58, 300, .inl (fun _ => 0))), (m11_43, .inl (k11_59, 300, .inl (fun _ => 0))), (m12_44, .inl (k12_60, 300, .inl (fun _ => 0))), (m13_45, .inl (k13_61, 300, .inl (fun _ => 0))), (m14_46, .inl (k14_62, 300, .inl (fun _ => 0))), (m18_47, .inl (k18_63, 1040, .inl (fun _ => 0))), (m34_48, .inl (k34_64, 96, .inl (fun _ => 0))), (m35_49, .inl (k35_65, 8, .inl (fun _ => 0))), (m36_50, .inl (k36_66, 28000, .inl (fun _ => 0))), (m37_51, .inl (k37_67, 8, .inl (fun _ => 0)))] := hD
  refine W.widen (k := 36) (n := 110908) (by omega) (by omega) ?_
  refine lv_astore_n (lv' := [(2, .ref q_33), (1, .ref q_1), (0, .ref b)]) hx hb dL_law_15 rfl hl (by decide) rfl (fun ls hl => ?_)
  refine lv_iconst (v := 1) hx hb dL_law_16 (by decide) ?_
  refine va_newa (atype := .long) (ty := .long) hx hb (hts (.arrayClass .long) (by decide +kernel)) rfl hK hP hD hS hA (n := 1) (N' := 1) (a0 := (1, .inr (.inl (fun _ => 0)))) (fun _ => rfl) (by decide) (by decide +kernel) (nb_long 1 (by omega)) (show 36 + 1 ≤ 600002 by omega) (show 110908 + 1 ≤ 7302232 by omega) dL_law_17 (fun ou cO H hK hP hD hS => ?_)
  refine W.widen (k := 37) (n := 110909) (by omega) (by omega) ?_
  have hP : va_P (dC, dI) vwCl [(q_1, .inr (5, [.ref ta_3, .ref wi_5, .ref se_7, .ref re_14, .int 0, .int 0, .int 0, .int 0, .int 0])), (ta_3, .inr (3, [.ref tb_4, .int 0])), (tb_4, .inl (cT_21, 3100, .inl (fun _ => 0))), (wi_5, .inr (4, [.ref wb_6, .int 0])), (wb_6, .inl (cW_22, 1029, .inl (fun _ => 0))), (se_7, .inr (1, [.int 0, .int 0, .int 0, .ref fl_8, .int 0, .ref un, .int 0, .int 0, .int 0, .int 0])), (fl_8, .inr (2, [.ref fn_9, .ref fk_10, .ref fd_11, .ref fs_12, .ref fz_13, .int 0])), (fn_9, .inl (c1_23, 96, .inl (fun _ => 0))), (fk_10, .inl (c2_24, 8, .inl (fun _ => 0))), (fd_11, .inl (c3_25, 24000, .inl (fun _ => 0))), (fs_12, .inl (c4_26, 8, .inl (fun _ => 0))), (fz_13, .inl (c5_27, 8, .inl (fun _ => 0))), (re_14, .inr (0, [.int 0, .int 0, .int 0, .ref ar_15, .int 0, .int 0, .int 0, .int 0, .int 0])), (ar_15, .inr (2, [.ref an_16, .ref ak_17, .ref ad_18, .ref as__19, .ref az_20, .int 0])), (an_16, .inl (d1_28, 96, .inl (fun _ => 0))), (ak_17, .inl (d2_29, 8, .inl (fun _ => 0))), (ad_18, .inl (d3_30, 24576, .inl (fun _ => 0))), (as__19, .inl (d4_31, 8, .inl (fun _ => 0))), (az_20, .inl (d5_32, 8, .inl (fun _ => 0))), (q_33, .inr (6, [.int 0, .ref m1_36, .ref m2_37, .int 0, .int 0, .ref m5_38, .ref m6_39, .ref m7_40, .ref m8_41, .int 0, .ref m10_42, .ref m11_43, .ref m12_44, .ref m13_45, .ref m14_46, .int 0, .int 0, .int 0, .ref m18_47, .int 0, .int 0, .int 0, .int 0, .int 0, .int 0, .int 0, .int 0, .int 0, .int 0, .int 0, .int 0, .int 0, .int 0, .int 0, .ref m34_48, .ref m35_49, .ref m36_50, .ref m37_51, .int 0])), (m1_36, .inl (k1_52, 16, .inl nb_35)), (m2_37, .inl (k2_53, 3100, .inl (fun _ => 0))), (m5_38, .inl (k5_54, 96, .inl (fun _ => 0))), (m6_39, .inl (k6_55, 8, .inl (fun _ => 0))), (m7_40, .inl (k7_56, 24000, .inl (fun _ => 0))), (m8_41, .inl (k8_57, 8, .inl (fun _ => 0))), (m10_42, .inl (k10_58, 300, .inl (fun _ => 0))), (m11_43, .inl (k11_59, 300, .inl (fun _ => 0))), (m12_44, .inl (k12_60, 300, .inl (fun _ => 0))), (m13_45, .inl (k13_61, 300, .inl (fun _ => 0))), (m14_46, .inl (k14_62, 300, .inl (fun _ => 0))), (m18_47, .inl (k18_63, 1040, .inl (fun _ => 0))), (m34_48, .inl (k34_64, 96, .inl (fun _ => 0))), (m35_49, .inl (k35_65, 8, .inl (fun _ => 0))), (m36_50, .inl (k36_66, 28000, .inl (fun _ => 0))), (m37_51, .inl (k37_67, 8, .inl (fun _ => 0)))] H := hP.sub [0, 1, 2, 3, 4, 5, 6, 7, 8, 9, 10, 11, 12, 13, 14, 15, 16, 17, 18, 19, 20, 21, 22, 23, 24, 25, 26, 27, 28, 29, 30, 31, 32, 33, 34, 35] rfl
  have hD : va_D A [(q_1, .inr (5, [.ref ta_3, .ref wi_5, .ref se_7, .ref re_14, .int 0, .int 0, .int 0, .int 0, .int 0])), (ta_3, .inr (3, [.ref tb_4, .int 0])), (tb_4, .inl (cT_21, 3100, .inl (fun _ => 0))), (wi_5, .inr (4, [.ref wb_6, .int 0])), (wb_6, .inl (cW_22, 1029, .inl (fun _ => 0))), (se_7, .inr (1, [.int 0, .int 0, .int 0, .ref fl_8, .int 0, .ref un, .int 0, .int 0, .int 0, .int 0])), (fl_8, .inr (2, [.ref fn_9, .ref fk_10, .ref fd_11, .ref fs_12, .ref fz_13, .int 0])), (fn_9, .inl (c1_23, 96, .inl (fun _ => 0))), (fk_10, .inl (c2_24, 8, .inl (fun _ => 0))), (fd_11, .inl (c3_25, 24000, .inl (fun _ => 0))), (fs_12, .inl (c4_26, 8, .inl (fun _ => 0))), (fz_13, .inl (c5_27, 8, .inl (fun _ => 0))), (re_14, .inr (0, [.int 0, .int 0, .int 0, .ref ar_15, .int 0, .int 0, .int 0, .int 0, .int 0])), (ar_15, .inr (2, [.ref an_16, .ref ak_17, .ref ad_18, .ref as__19, .ref az_20, .int 0])), (an_16, .inl (d1_28, 96, .inl (fun _ => 0))), (ak_17, .inl (d2_29, 8, .inl (fun _ => 0))), (ad_18, .inl (d3_30, 24576, .inl (fun _ => 0))), (as__19, .inl (d4_31, 8, .inl (fun _ => 0))), (az_20, .inl (d5_32, 8, .inl (fun _ => 0))), (q_33, .inr (6, [.int 0, .ref m1_36, .ref m2_37, .int 0, .int 0, .ref m5_38, .ref m6_39, .ref m7_40, .ref m8_41, .int 0, .ref m10_42, .ref m11_43, .ref m12_44, .ref m13_45, .ref m14_46, .int 0, .int 0, .int 0, .ref m18_47, .int 0, .int 0, .int 0, .int 0, .int 0, .int 0, .int 0, .int 0, .int 0, .int 0, .int 0, .int 0, .int 0, .int 0, .int 0, .ref m34_48, .ref m35_49, .ref m36_50, .ref m37_51, .int 0])), (m1_36, .inl (k1_52, 16, .inl nb_35)), (m2_37, .inl (k2_53, 3100, .inl (fun _ => 0))), (m5_38, .inl (k5_54, 96, .inl (fun _ => 0))), (m6_39, .inl (k6_55, 8, .inl (fun _ => 0))), (m7_40, .inl (k7_56, 24000, .inl (fun _ => 0))), (m8_41, .inl (k8_57, 8, .inl (fun _ => 0))), (m10_42, .inl (k10_58, 300, .inl (fun _ => 0))), (m11_43, .inl (k11_59, 300, .inl (fun _ => 0))), (m12_44, .inl (k12_60, 300, .inl (fun _ => 0))), (m13_45, .inl (k13_61, 300, .inl (fun _ => 0))), (m14_46, .inl (k14_62, 300, .inl (fun _ => 0))), (m18_47, .inl (k18_63, 1040, .inl (fun _ => 0))), (m34_48, .inl (k34_64, 96, .inl (fun _ => 0))), (m35_49, .inl (k35_65, 8, .inl (fun _ => 0))), (m36_50, .inl (k36_66, 28000, .inl (fun _ => 0))), (m37_51, .inl (k37_67, 8, .inl (fun _ => 0)))] := hD.sub [0, 1, 2, 3, 4, 5, 6, 7, 8, 9, 10, 11, 12, 13, 14, 15, 16, 17, 18, 19, 20, 21, 22, 23, 24, 25, 26, 27, 28, 29, 30, 31, 32, 33, 34, 35] (by decide) rfl
  have hK : va_K (dC, dI) vwCl [(cT_21, .byte), (cW_22, .byte), (c1_23, .byte), (c2_24, .int), (c3_25, .byte), (c4_26, .int), (c5_27, .int), (d1_28, .byte), (d2_29, .int), (d3_30, .byte), (d4_31, .int), (d5_32, .int), (k1_52, .int), (k2_53, .byte), (k5_54, .byte), (k6_55, .int), (k7_56, .byte), (k8_57, .int), (k10_58, .int), (k11_59, .int), (k12_60, .int), (k13_61, .int), (k14_62, .int), (k18_63, .byte), (k34_64, .byte), (k35_65, .int), (k36_66, .byte), (k37_67, .int)] s := hK.sub [0, 1, 2, 3, 4, 5, 6, 7, 8, 9, 10, 11, 12, 13, 14, 15, 16, 17, 18, 19, 20, 21, 22, 23, 24, 25, 26, 27] rfl
  refine lv_astore_n (lv' := [(3, .ref ou), (2, .ref q_33), (1, .ref q_1), (0, .ref b)]) hx hb dL_law_19 rfl hl (by decide) rfl (fun ls hl => ?_)
  refine lv_iconst (v := 0) hx hb dL_law_20 (by decide) ?_
  refine lv_istore (lv' := [(4, .int 0), (3, .ref ou), (2, .ref q_33), (1, .ref q_1), (0, .ref b)]) hx hb dL_law_21 hl (by decide) rfl (fun ls hl => ?_)
  have hl : lv_has ls 7 [(4, .int 0), (3, .ref ou), (2, .ref q_33), (1, .ref q_1), (0, .ref b)] := lv_sub hl [0, 1, 2, 3, 4] rfl
  rcases (show L = 0 ∨ L = 1 ∨ L = 2 ∨ L = 3 ∨ L = 4 ∨ L = 5 ∨ L = 6 by omega) with rfl | rfl | rfl | rfl | rfl | rfl | rfl
  · refine lv_iload hx hb dL_law_23 (lv_at hl 0 rfl) ?_
    refine lv_aload_n hx hb dL_law_25 rfl (lv_at hl 4 rfl) ?_
    refine va_slen hx hb hX hbl hbA hS dL_law_26 ?_
    refine lv_topi (fun x_901 ex_901 => ?_)
    obtain rfl : x_901 = 0 := ex_901.trans (by decide)
    refine lv_bipush (v := 6) hx hb dL_law_27 (by decide) ?_
    refine lv_isub hx hb dL_law_29 ?_
    refine lv_topi (fun x_902 ex_902 => ?_)
    obtain rfl : x_902 = (-6) := ex_902.trans (by decide)
    refine lv_icmp_gt (tgt := 593) hx hb dL_law_30 (by decide) (fun c_903 => ?_) (fun c_903 => absurd (by decide) c_903)
    refine lv_iconst (v := 1) hx hb dL_law_593 (by decide) ?_
    refine va_forget (fun q hq => hAf _ (hS.2.2 q hq)) ?_
    refine W.widen (k := 600002) (n := 7302232) (by omega) (by omega) ?_
    exact lw_ret hx hb hr hlocks dL_law_594
  · refine lv_iload hx hb dL_law_23 (lv_at hl 0 rfl) ?_
    refine lv_aload_n hx hb dL_law_25 rfl (lv_at hl 4 rfl) ?_
    refine va_slen hx hb hX hbl hbA hS dL_law_26 ?_
    refine lv_topi (fun x_901 ex_901 => ?_)
    obtain rfl : x_901 = 1 := ex_901.trans (by decide)
    refine lv_bipush (v := 6) hx hb dL_law_27 (by decide) ?_
    refine lv_isub hx hb dL_law_29 ?_
    refine lv_topi (fun x_902 ex_902 => ?_)
    obtain rfl : x_902 = (-5) := ex_902.trans (by decide)
    refine lv_icmp_gt (tgt := 593) hx hb dL_law_30 (by decide) (fun c_903 => ?_) (fun c_903 => absurd (by decide) c_903)
    refine lv_iconst (v := 1) hx hb dL_law_593 (by decide) ?_
    refine va_forget (fun q hq => hAf _ (hS.2.2 q hq)) ?_
    refine W.widen (k := 600002) (n := 7302232) (by omega) (by omega) ?_
    exact lw_ret hx hb hr hlocks dL_law_594
  · refine lv_iload hx hb dL_law_23 (lv_at hl 0 rfl) ?_
    refine lv_aload_n hx hb dL_law_25 rfl (lv_at hl 4 rfl) ?_
    refine va_slen hx hb hX hbl hbA hS dL_law_26 ?_
    refine lv_topi (fun x_901 ex_901 => ?_)
    obtain rfl : x_901 = 2 := ex_901.trans (by decide)
    refine lv_bipush (v := 6) hx hb dL_law_27 (by decide) ?_
    refine lv_isub hx hb dL_law_29 ?_
    refine lv_topi (fun x_902 ex_902 => ?_)
    obtain rfl : x_902 = (-4) := ex_902.trans (by decide)
    refine lv_icmp_gt (tgt := 593) hx hb dL_law_30 (by decide) (fun c_903 => ?_) (fun c_903 => absurd (by decide) c_903)
    refine lv_iconst (v := 1) hx hb dL_law_593 (by decide) ?_
    refine va_forget (fun q hq => hAf _ (hS.2.2 q hq)) ?_
    refine W.widen (k := 600002) (n := 7302232) (by omega) (by omega) ?_
    exact lw_ret hx hb hr hlocks dL_law_594
  · refine lv_iload hx hb dL_law_23 (lv_at hl 0 rfl) ?_
    refine lv_aload_n hx hb dL_law_25 rfl (lv_at hl 4 rfl) ?_
    refine va_slen hx hb hX hbl hbA hS dL_law_26 ?_
    refine lv_topi (fun x_901 ex_901 => ?_)
    obtain rfl : x_901 = 3 := ex_901.trans (by decide)
    refine lv_bipush (v := 6) hx hb dL_law_27 (by decide) ?_
    refine lv_isub hx hb dL_law_29 ?_
    refine lv_topi (fun x_902 ex_902 => ?_)
    obtain rfl : x_902 = (-3) := ex_902.trans (by decide)
    refine lv_icmp_gt (tgt := 593) hx hb dL_law_30 (by decide) (fun c_903 => ?_) (fun c_903 => absurd (by decide) c_903)
    refine lv_iconst (v := 1) hx hb dL_law_593 (by decide) ?_
    refine va_forget (fun q hq => hAf _ (hS.2.2 q hq)) ?_
    refine W.widen (k := 600002) (n := 7302232) (by omega) (by omega) ?_
    exact lw_ret hx hb hr hlocks dL_law_594
  · refine lv_iload hx hb dL_law_23 (lv_at hl 0 rfl) ?_
    refine lv_aload_n hx hb dL_law_25 rfl (lv_at hl 4 rfl) ?_
    refine va_slen hx hb hX hbl hbA hS dL_law_26 ?_
    refine lv_topi (fun x_901 ex_901 => ?_)
    obtain rfl : x_901 = 4 := ex_901.trans (by decide)
    refine lv_bipush (v := 6) hx hb dL_law_27 (by decide) ?_
    refine lv_isub hx hb dL_law_29 ?_
    refine lv_topi (fun x_902 ex_902 => ?_)
    obtain rfl : x_902 = (-2) := ex_902.trans (by decide)
    refine lv_icmp_gt (tgt := 593) hx hb dL_law_30 (by decide) (fun c_903 => ?_) (fun c_903 => absurd (by decide) c_903)
    refine lv_iconst (v := 1) hx hb dL_law_593 (by decide) ?_
    refine va_forget (fun q hq => hAf _ (hS.2.2 q hq)) ?_
    refine W.widen (k := 600002) (n := 7302232) (by omega) (by omega) ?_
    exact lw_ret hx hb hr hlocks dL_law_594
  · refine lv_iload hx hb dL_law_23 (lv_at hl 0 rfl) ?_
    refine lv_aload_n hx hb dL_law_25 rfl (lv_at hl 4 rfl) ?_
    refine va_slen hx hb hX hbl hbA hS dL_law_26 ?_
    refine lv_topi (fun x_901 ex_901 => ?_)
    obtain rfl : x_901 = 5 := ex_901.trans (by decide)
    refine lv_bipush (v := 6) hx hb dL_law_27 (by decide) ?_
    refine lv_isub hx hb dL_law_29 ?_
    refine lv_topi (fun x_902 ex_902 => ?_)
    obtain rfl : x_902 = (-1) := ex_902.trans (by decide)
    refine lv_icmp_gt (tgt := 593) hx hb dL_law_30 (by decide) (fun c_903 => ?_) (fun c_903 => absurd (by decide) c_903)
    refine lv_iconst (v := 1) hx hb dL_law_593 (by decide) ?_
    refine va_forget (fun q hq => hAf _ (hS.2.2 q hq)) ?_
    refine W.widen (k := 600002) (n := 7302232) (by omega) (by omega) ?_
    exact lw_ret hx hb hr hlocks dL_law_594
  · refine lv_iload hx hb dL_law_23 (lv_at hl 0 rfl) ?_
    refine lv_aload_n hx hb dL_law_25 rfl (lv_at hl 4 rfl) ?_
    refine va_slen hx hb hX hbl hbA hS dL_law_26 ?_
    refine lv_topi (fun x_901 ex_901 => ?_)
    obtain rfl : x_901 = 6 := ex_901.trans (by decide)
    refine lv_bipush (v := 6) hx hb dL_law_27 (by decide) ?_
    refine lv_isub hx hb dL_law_29 ?_
    refine lv_topi (fun x_902 ex_902 => ?_)
    obtain rfl : x_902 = 0 := ex_902.trans (by decide)
    refine lv_icmp_gt (tgt := 593) hx hb dL_law_30 (by decide) (fun c_903 => absurd c_903 (by decide)) (fun c_903 => ?_)
    refine lv_aload_n hx hb dL_law_33 rfl (lv_at hl 4 rfl) ?_
    refine lv_iload hx hb dL_law_34 (lv_at hl 0 rfl) ?_
    have h_904 : vp_in (0) 6 := by unfold vp_in; decide +kernel
    refine va_sld hx hb hX hbl hbA hS h_904 dL_law_36 ?_
    refine lv_topi (fun x_905 ex_905 => ?_)
    refine lv_bipush (v := 15) hx hb dL_law_37 (by decide) ?_
    refine lv_iand hx hb dL_law_39 ?_
    refine lv_topi (fun x_906 ex_906 => ?_)
    obtain ⟨j9, hj9, ej9⟩ := pk_andE x_905 (m := 15) 4 (by decide)
    rw [show x_906 = nI j9 from ex_906.trans ej9]
    rcases (show j9 = 0 ∨ j9 = 1 ∨ j9 = 2 ∨ j9 = 3 ∨ j9 = 4 ∨ j9 = 5 ∨ j9 = 6 ∨ j9 = 7 ∨ j9 = 8 ∨ j9 = 9 ∨ j9 = 10 ∨ j9 = 11 ∨ j9 = 12 ∨ j9 = 13 ∨ j9 = 14 ∨ j9 = 15 by omega) with rfl | rfl | rfl | rfl | rfl | rfl | rfl | rfl | rfl | rfl | rfl | rfl | rfl | rfl | rfl | rfl
    · exact lv_tableIn (off := 76) (tgt := 116) hx hb dL_law_40 (by decide) (by decide) rfl (by decide) (law_c0 (un := un) hlt hx hb hr hml hown hts hX hbl hlocks hA hbA hAf hX0 hX1 hX2 hX3 hX4 hX5 _ _ ls hK hP hD hS hl)
    · exact lv_tableIn (off := 149) (tgt := 189) hx hb dL_law_40 (by decide) (by decide) rfl (by decide) (law_c1 (un := un) hlt hx hb hr hml hown hts hX hbl hlocks hA hbA hAf hX0 hX1 hX2 hX3 hX4 hX5 _ _ ls hK hP hD hS hl)
    · exact lv_tableIn (off := 174) (tgt := 214) hx hb dL_law_40 (by decide) (by decide) rfl (by decide) (law_c2 (un := un) hlt hx hb hr hml hown hts hX hbl hlocks hA hbA hAf hX0 hX1 hX2 hX3 hX4 hX5 _ _ ls hK hP hD hS hl)
    · exact lv_tableIn (off := 187) (tgt := 227) hx hb dL_law_40 (by decide) (by decide) rfl (by decide) (law_c3 (un := un) hlt hx hb hr hml hown hts hX hbl hlocks hA hbA hAf hX0 hX1 hX2 hX3 hX4 hX5 _ _ ls hK hP hD hS hl)
    · exact lv_tableIn (off := 224) (tgt := 264) hx hb dL_law_40 (by decide) (by decide) rfl (by decide) (law_c4 (un := un) hlt hx hb hr hml hown hts hX hbl hlocks hA hbA hAf hX0 hX1 hX2 hX3 hX4 hX5 _ _ ls hK hP hD hS hl)
    · exact lv_tableIn (off := 237) (tgt := 277) hx hb dL_law_40 (by decide) (by decide) rfl (by decide) (law_c5 (un := un) hlt hx hb hr hml hown hts hX hbl hlocks hA hbA hAf hX0 hX1 hX2 hX3 hX4 hX5 _ _ ls hK hP hD hS hl)
    · exact lv_tableIn (off := 262) (tgt := 302) hx hb dL_law_40 (by decide) (by decide) rfl (by decide) (law_c6 (un := un) hlt hx hb hr hml hown hts hX hbl hlocks hA hbA hAf hX0 hX1 hX2 hX3 hX4 hX5 _ _ ls hK hP hD hS hl)
    · exact lv_tableIn (off := 297) (tgt := 337) hx hb dL_law_40 (by decide) (by decide) rfl (by decide) (law_c7 (un := un) hlt hx hb hr hml hown hts hX hbl hlocks hA hbA hAf hX0 hX1 hX2 hX3 hX4 hX5 _ _ ls hK hP hD hS hl)
    · exact lv_tableIn (off := 310) (tgt := 350) hx hb dL_law_40 (by decide) (by decide) rfl (by decide) (law_c8 (un := un) hlt hx hb hr hml hown hts hX hbl hlocks hA hbA hAf hX0 hX1 hX2 hX3 hX4 hX5 _ _ ls hK hP hD hS hl)
    · exact lv_tableIn (off := 323) (tgt := 363) hx hb dL_law_40 (by decide) (by decide) rfl (by decide) (law_c9 (un := un) hlt hx hb hr hml hown hts hX hbl hlocks hA hbA hAf hX0 hX1 hX2 hX3 hX4 hX5 _ _ ls hK hP hD hS hl)
    · exact lv_tableIn (off := 379) (tgt := 419) hx hb dL_law_40 (by decide) (by decide) rfl (by decide) (law_c10 (un := un) hlt hx hb hr hml hown hts hX hbl hlocks hA hbA hAf hX0 hX1 hX2 hX3 hX4 hX5 _ _ ls hK hP hD hS hl)
    · exact lv_tableIn (off := 404) (tgt := 444) hx hb dL_law_40 (by decide) (by decide) rfl (by decide) (law_c11 (un := un) hlt hx hb hr hml hown hts hX hbl hlocks hA hbA hAf hX0 hX1 hX2 hX3 hX4 hX5 _ _ ls hK hP hD hS hl)
    · exact lv_tableIn (off := 417) (tgt := 457) hx hb dL_law_40 (by decide) (by decide) rfl (by decide) (law_c12 (un := un) hlt hx hb hr hml hown hts hX hbl hlocks hA hbA hAf hX0 hX1 hX2 hX3 hX4 hX5 _ _ ls hK hP hD hS hl)
    · exact lv_tableIn (off := 442) (tgt := 482) hx hb dL_law_40 (by decide) (by decide) rfl (by decide) (law_c13 (un := un) hlt hx hb hr hml hown hts hX hbl hlocks hA hbA hAf hX0 hX1 hX2 hX3 hX4 hX5 _ _ ls hK hP hD hS hl)
    · exact lv_tableIn (off := 510) (tgt := 550) hx hb dL_law_40 (by decide) (by decide) rfl (by decide) (law_c14 (un := un) hlt hx hb hr hml hown hts hX hbl hlocks hA hbA hAf hX0 hX1 hX2 hX3 hX4 hX5 _ _ ls hK hP hD hS hl)
    · exact lv_tableOut (tgt := 587) hx hb dL_law_40 (by decide) (by decide) (law_c15 (un := un) hlt hx hb hr hml hown hts hX hbl hlocks hA hbA hAf hX0 hX1 hX2 hX3 hX4 hX5 _ _ ls hK hP hD hS hl)
