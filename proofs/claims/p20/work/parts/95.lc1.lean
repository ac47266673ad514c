set_option maxHeartbeats 4000000 in
set_option maxRecDepth 100000 in
theorem lwq_12 {p : Program} {e : Env} {s : State} {m : MethodId} {below : List Frame} {meth : Method} {cM : Code} (l : Launch) (hl0 : l.stackTraces = false) {A : Nat → Prop} {dC : Nat → ClassId} {dI : Nat → Nat → Nat} {b L e0 : Nat} {xs : Nat → Int32} (kc kR : Nat → ClassId) (ko : ClassId) (oa o : Nat) (cR : Nat → Nat) (c : Nat → Nat) (st : Nat → Int32) (lg : Nat → Int64) (ai : Nat → Nat → Int32) (al : Nat → Nat → Int64) (R : va_W) (cap : Nat) (num : Nat → Int32) (fo : Nat → Int64) (stR : Nat → Int32) (lgR : Nat → Int64) (aiR : Nat → Nat → Int32) (alR : Nat → Nat → Int64) (H : Heap) (locs : List Loc) (ls : Array Slot) (i : Int32) (K0 M0 : Nat) (C0 : lwB p s m meth cM b L xs A e0) (hK : va_K (dC, dI) vwCl (cw_T kc) s) (hKo : va_K (dC, dI) vwCl [(ko, .long)] s) (hKR : va_K (dC, dI) vwCl (rw_T kR) s) (hS0 : lwS (dC, dI) A s e0 kc kR ko oa o cR c st lg ai al R cap num fo stR lgR aiR alR H locs) (hl : lv_has ls 8 [(4, .int i), (3, .ref oa), (2, .ref o), (1, .ref (c 100)), (0, .ref b)]) (hi : 1 ≤ i.toInt) (hi2 : i.toInt + 4 < (L : Int)) (hL : L ≤ 2561) (hK0 : K0 + 100 ≤ 601024) (hM0 : M0 + 1200000 ≤ 7293000) (kk : ∀ (e9 : Nat) (st9 : Nat → Int32) (lg9 : Nat → Int64) (ai9 : Nat → Nat → Int32) (al9 : Nat → Nat → Int64) (R9 : va_W) (cap9 : Nat) (num9 : Nat → Int32) (f9 : Nat → Int64) (sR9 : Nat → Int32) (lR9 : Nat → Int64) (aR9 : Nat → Nat → Int32) (bR9 : Nat → Nat → Int64) (H : Heap) (locs : List Loc) (ls : Array Slot) (K9 M9 : Nat), lwS (dC, dI) A s e0 kc kR ko oa o cR (rU c 99 e9) st9 lg9 ai9 al9 R9 cap9 num9 f9 sR9 lR9 aR9 bR9 H locs → lv_has ls 8 [(4, .int i), (3, .ref oa), (2, .ref o), (1, .ref (c 100)), (0, .ref b)] → cap ≤ cap9 → (st 13).toInt ≤ (st9 13).toInt → (st9 13).toInt ≤ (st 13).toInt + 16 → (K9 : Int) ≤ (K0 : Int) + 3 + 3 * ((st9 13).toInt - (st 13).toInt) → (M9 : Int) ≤ (M0 : Int) + 18 + 29 * ((st9 13).toInt - (st 13).toInt) + 4 * ((cap9 : Int) - (cap : Int)) → W p l e room_1 s m #[Value.ref b] below meth cM H locs K9 M9 (lw_Z below #[Value.ref b] s) (F0 m 1103 ls [])) : W p l e room_1 s m #[Value.ref b] below meth cM H locs K0 M0 (lw_Z below #[Value.ref b] s) (F0 m 689 ls []) := by
  obtain ⟨hx, hb, hr, hml, hown, hts, hX, hbl, hlocks, hA, hA9, hbA, hY⟩ := C0
  obtain ⟨hI, hJ, hcE, hPZ, hDZ, hPY, hDY, hdj, hS⟩ := hS0
  obtain ⟨⟨rf1a, rf1b⟩, ⟨rf2a, rf2b⟩, ⟨rf3a, rf3b⟩, ⟨rf6a, rf6b⟩, ⟨rf7a, rf7b⟩, ⟨rf9a, rf9b⟩, ⟨rf12a, rf12b⟩, ⟨rf15a, rf15b⟩, ⟨rf16a, rf16b⟩, ⟨rf17a, rf17b⟩, ⟨rf21a, rf21b⟩, ⟨rf22a, rf22b⟩, ⟨rf24a, rf24b⟩, ⟨rf26a, rf26b⟩, ⟨rf30a, rf30b⟩, ⟨rf32a, rf32b⟩, ⟨rf37a, rf37b⟩, rR8, rR25, rR31, rR35⟩ := hJ
  have hG := hY.1
  have hGW := hG.1
  have z_1 : (1 : Int32).toInt = 1 := by decide
  have z_2 : (2 : Int32).toInt = 2 := by decide
  have z_32 : (32 : Int32).toInt = 32 := by decide
  refine lv_aload_n hx hb dL_law_689 rfl (lv_at hl 3 rfl) ?_
  refine lv_aload_n hx hb dL_law_690 rfl (lv_at hl 4 rfl) ?_
  refine lv_iload hx hb dL_law_691 (lv_at hl 0 rfl) ?_
  refine lv_iconst (v := 1) hx hb dL_law_693 (by decide) ?_
  refine lv_iadd hx hb dL_law_694 ?_
  refine lv_topi (fun v_1 ev_1 => ?_)
  have rg1 := iv_rng i
  have hv_1 : v_1.toInt = i.toInt + 1 := by rw [ev_1]; exact (iv_add (by omega) (by omega)).trans (by omega)
  clear ev_1
  refine va_sld hx hb hX hbl hbA hS (iv_in (i := v_1) (by omega) (by omega)) dL_law_695 ?_
  refine lv_topi (fun v_2 ev_2 => ?_)
  clear ev_2
  refine lv_i2l hx hb dL_law_696 rfl ?_
  refine lv_topl (fun w_3 ew_3 => ?_)
  clear ew_3
  refine lv_bipush (v := 32) hx hb dL_law_697 (by decide) ?_
  refine lv_lshl hx hb dL_law_699 rfl ?_
  refine lv_topl (fun w_4 ew_4 => ?_)
  clear ew_4
  refine lv_aload_n hx hb dL_law_700 rfl (lv_at hl 4 rfl) ?_
  refine lv_iload hx hb dL_law_701 (lv_at hl 0 rfl) ?_
  refine lv_iconst (v := 2) hx hb dL_law_703 (by decide) ?_
  refine lv_iadd hx hb dL_law_704 ?_
  refine lv_topi (fun v_5 ev_5 => ?_)
  have hv_5 : v_5.toInt = i.toInt + 2 := by rw [ev_5]; exact (iv_add (by omega) (by omega)).trans (by omega)
  clear ev_5
  refine va_sld hx hb hX hbl hbA hS (iv_in (i := v_5) (by omega) (by omega)) dL_law_705 ?_
  refine lv_topi (fun v_6 ev_6 => ?_)
  clear ev_6
  refine lv_i2l hx hb dL_law_706 rfl ?_
  refine lv_topl (fun w_7 ew_7 => ?_)
  clear ew_7
  refine lv_ldc2 hx hb hown (hts (.constantLong RL 106 (4294967295)) (by decide +kernel)) dL_law_707 ?_
  refine lv_land hx hb dL_law_710 ?_
  refine lv_topl (fun w_8 ew_8 => ?_)
  clear ew_8
  refine lv_lor hx hb dL_law_711 ?_
  refine lv_topl (fun w_9 ew_9 => ?_)
  clear ew_9
  refine lv_aload_n hx hb dL_law_712 rfl (lv_at hl 1 rfl) ?_
  refine W_read (fun hu1 hu2 => ?_)
  have hFc := vfree hDZ hS hA
  refine va_calli (vx_runSW (As := [.ref (c 100), .long w_9, .ref oa]) (rest := []) ⟨hx, hb, hml, hown, hts⟩ (h_L_page l hl0 dC dI c kc st lg ai al R cap num oa ko fo w_9 _ _ hI) (vx_cwSW 3 hts gL_law_L_page rfl rfl rfl (by decide +kernel) ⟨Nat.le_of_ble_eq_true rfl, Nat.le_of_ble_eq_true rfl⟩) ⟨fun a U g mk q => by obtain ⟨q0, q1, q2, qP, qK, qO, qD, qG⟩ := q; exact ⟨q0, q1, q2, qP, va_K.moved (u := U) (U := U.calling g mk a) (Vm.Alike.refl U.vm) qK, va_K.moved (u := U) (U := U.calling g mk a) (Vm.Alike.refl U.vm) qO, qD, qG.same rfl rfl⟩, fun U hU hW => ⟨rfl, by rw [hU], by rw [hU], by rw [hU]; exact hPZ, va_K.moved hW.alike hK, va_K.moved hW.alike hKo, hDZ.weaken (fun _ _ _ _ => trivial), hY.go hW hU hS hFc (fun h => ⟨rfl, hcE h⟩)⟩⟩ rfl rfl hl.1 rfl (lv_room (Nat.le_of_ble_eq_true rfl)) dL_law_713 ⟨by show K0 + 1 ≤ 601024; omega, by show M0 + 6 ≤ 7293000; omega⟩) hS (fun q _ h => hFc q h) hFc (fun r u t H1 locs ht hvm er hB hz1 hk1 hS => ?_)
  subst er
  obtain ⟨e9, st9, lg9, ai9, al9, R9, cap9, num9, f9, hI9, hc9, hcp9, hn1, hn2, hs1, hs2, hP9, hD9⟩ := hB
  have hN9 : (cap9 : Int) ≤ 10 + 2 * (st9 13).toInt := by have hI := hI9; obtain ⟨⟨hf3a, hf3b⟩, ⟨hf5a, hf5b⟩, ⟨hf6a, hf6b⟩, ⟨hf9a, hf9b⟩, ⟨hf13a, hf13b⟩, ⟨hf15a, hf15b⟩, ⟨hf17a, hf17b⟩, ⟨hf25a, hf25b⟩, ⟨hf26a, hf26b⟩, ⟨hf27a, hf27b⟩, ⟨hf28a, hf28b⟩, ⟨hf37a, hf37b⟩, hR4, hR7, hR23, hR32, hR33, hPI, hN⟩ := hI; exact hN.1
  have hb9 : (st9 13).toInt ≤ 65536 := by have hI := hI9; obtain ⟨⟨hf3a, hf3b⟩, ⟨hf5a, hf5b⟩, ⟨hf6a, hf6b⟩, ⟨hf9a, hf9b⟩, ⟨hf13a, hf13b⟩, ⟨hf15a, hf15b⟩, ⟨hf17a, hf17b⟩, ⟨hf25a, hf25b⟩, ⟨hf26a, hf26b⟩, ⟨hf27a, hf27b⟩, ⟨hf28a, hf28b⟩, ⟨hf37a, hf37b⟩, hR4, hR7, hR23, hR32, hR33, hPI, hN⟩ := hI; exact hf13b
  rw [ht] at hP9 hs1 hs2
  have hdj9 := dj_new hPY hdj hD9
  have hPY := dj_keep hPY hdj hk1
  have hdj := hdj9
  have hDZ := hD9.weaken (fun _ _ _ h => hFc _ h)
  have hPZ := hP9
  have hcE : cap9 = 0 → (rU c 99 e9) 99 = e0 := fun h => (show e9 = e0 from (hc9 h).2.trans (hcE (hc9 h).1))
  obtain ⟨K1, hK1⟩ : ∃ k9 : Nat, (k9 : Int) = (K0 : Int) + 3 + 3 * ((st9 13).toInt - (st 13).toInt) := ⟨((K0 : Int) + 3 + 3 * ((st9 13).toInt - (st 13).toInt)).toNat, by omega⟩
  obtain ⟨M1, hM1⟩ : ∃ m9 : Nat, (m9 : Int) = (M0 : Int) + 18 + 29 * ((st9 13).toInt - (st 13).toInt) + 4 * ((cap9 : Int) - (cap : Int)) := ⟨((M0 : Int) + 18 + 29 * ((st9 13).toInt - (st 13).toInt) + 4 * ((cap9 : Int) - (cap : Int))).toNat, by omega⟩
  refine W_tight (k' := K1) (m' := M1) (by omega) (by omega) ?_
  clear hz1 hk1 hvm hs1 hs2 hu1 hu2 hP9 hD9 hdj9 hFc
  subst ht
  generalize t.heap = H at hPZ hPY hS ⊢
  refine lv_topi (fun r er9 => ?_)
  clear er9
  refine lv_istore (lv' := [(5, .int r), (4, .int i), (3, .ref oa), (2, .ref o), (1, .ref (c 100)), (0, .ref b)]) hx hb dL_law_716 hl (by decide) rfl (fun ls hl => ?_)
  refine lv_aload_n hx hb dL_law_718 rfl (lv_at hl 3 rfl) ?_
  refine lv_aload_n hx hb dL_law_719 rfl (lv_at hl 5 rfl) ?_
  refine lv_iload hx hb dL_law_720 (lv_at hl 1 rfl) ?_
  refine lv_iconst (v := 1) hx hb dL_law_722 (by decide) ?_
  refine lv_iadd hx hb dL_law_723 ?_
  refine lv_topi (fun v_10 ev_10 => ?_)
  have hv_10 : v_10.toInt = i.toInt + 1 := by rw [ev_10]; exact (iv_add (by omega) (by omega)).trans (by omega)
  clear ev_10
  refine va_sld hx hb hX hbl hbA hS (iv_in (i := v_10) (by omega) (by omega)) dL_law_724 ?_
  refine lv_topi (fun v_11 ev_11 => ?_)
  clear ev_11
  refine lv_i2l hx hb dL_law_725 rfl ?_
  refine lv_topl (fun w_12 ew_12 => ?_)
  clear ew_12
  refine lv_bipush (v := 32) hx hb dL_law_726 (by decide) ?_
  refine lv_lshl hx hb dL_law_728 rfl ?_
  refine lv_topl (fun w_13 ew_13 => ?_)
  clear ew_13
  refine lv_aload_n hx hb dL_law_729 rfl (lv_at hl 5 rfl) ?_
  refine lv_iload hx hb dL_law_730 (lv_at hl 1 rfl) ?_
  refine lv_iconst (v := 2) hx hb dL_law_732 (by decide) ?_
  refine lv_iadd hx hb dL_law_733 ?_
  refine lv_topi (fun v_14 ev_14 => ?_)
  have hv_14 : v_14.toInt = i.toInt + 2 := by rw [ev_14]; exact (iv_add (by omega) (by omega)).trans (by omega)
  clear ev_14
  refine va_sld hx hb hX hbl hbA hS (iv_in (i := v_14) (by omega) (by omega)) dL_law_734 ?_
  refine lv_topi (fun v_15 ev_15 => ?_)
  clear ev_15
  refine lv_i2l hx hb dL_law_735 rfl ?_
  refine lv_topl (fun w_16 ew_16 => ?_)
  clear ew_16
  refine lv_ldc2 hx hb hown (hts (.constantLong RL 106 (4294967295)) (by decide +kernel)) dL_law_736 ?_
  refine lv_land hx hb dL_law_739 ?_
  refine lv_topl (fun w_17 ew_17 => ?_)
  clear ew_17
  refine lv_lor hx hb dL_law_740 ?_
  refine lv_topl (fun w_18 ew_18 => ?_)
  clear ew_18
  have hFc := vfree (rw_D hDY : va_D A (rw_W o cR kR stR lgR aiR alR)) hS hA
  refine va_calli (va_runV (As := [.long w_18]) (rest := []) ⟨hx, hb, hml, hown, hts⟩ (v_X9_page l dC dI o cR kR stR lgR aiR alR w_18 _ (show 1 ≤ (stR 1).toInt from rf1a) (show (stR 1).toInt ≤ 65536 from rf1b) (show 0 ≤ (stR 3).toInt from rf3a) (show (stR 3).toInt ≤ 1 from rf3b)) (cwV 1 hts gL_law_X9_page rfl rfl rfl (by decide +kernel) ⟨Nat.le_of_ble_eq_true rfl, Nat.le_of_ble_eq_true rfl⟩) ⟨fun a U g mk q => by obtain ⟨q0, q1, qP, qK, qD⟩ := q; exact ⟨q0, q1, qP, va_K.moved (u := U) (U := U.calling g mk a) (Vm.Alike.refl U.vm) qK, qD⟩, va_recv hKR hPY (ci := 11) (q := (RX9, TX9, 38)) rfl (q0 := 0) rfl, fun U hU hW => ⟨rfl, by rw [hU], by rw [hU]; exact hPY, va_K.moved hW.alike hKR, (rw_D hDY).weaken (fun _ _ _ _ => trivial)⟩⟩ rfl rfl hl.1 rfl (lv_room (Nat.le_of_ble_eq_true rfl)) dL_law_741 ⟨by show K1 + 0 ≤ 601024; omega, by show M1 + 0 ≤ 7293000; omega⟩) hS (fun q _ h => hFc q h) hFc (fun r_19 u t H1 locs ht hvm er_19 hB hz1 hk1 hS => ?_)
  subst er_19
  obtain ⟨x13_19, hP1⟩ := hB
  rw [ht] at hP1
  have hPZ := dj_keep hPZ (dj_sym (rw_dj (lg' := lgR) (st' := stR) (ai' := aiR) (al' := alR) hdj)) hk1
  clear hPY hz1 hk1 hvm hFc
  subst ht
  have hPY := hP1
  clear hP1
  generalize t.heap = H at hPY hPZ hS ⊢
  have hPY : va_P (dC, dI) vwCl (rw_W o cR kR (rU stR 13 x13_19) lgR aiR alR) H := hPY
  refine lv_istore (lv' := [(6, .int r_19), (5, .int r), (4, .int i), (3, .ref oa), (2, .ref o), (1, .ref (c 100)), (0, .ref b)]) hx hb dL_law_744 hl (by decide) rfl (fun ls hl => ?_)
  refine lv_goto (tgt := 1103) hx hb dL_law_746 (by decide) ?_
  exact kk e9 st9 lg9 ai9 al9 R9 cap9 num9 f9 (rU stR 13 x13_19) lgR aiR alR _ locs ls K1 M1 ⟨hI9, ⟨⟨rf1a, rf1b⟩, ⟨rf2a, rf2b⟩, ⟨rf3a, rf3b⟩, ⟨rf6a, rf6b⟩, ⟨rf7a, rf7b⟩, ⟨rf9a, rf9b⟩, ⟨rf12a, rf12b⟩, ⟨rf15a, rf15b⟩, ⟨rf16a, rf16b⟩, ⟨rf17a, rf17b⟩, ⟨rf21a, rf21b⟩, ⟨rf22a, rf22b⟩, ⟨rf24a, rf24b⟩, ⟨rf26a, rf26b⟩, ⟨rf30a, rf30b⟩, ⟨rf32a, rf32b⟩, ⟨rf37a, rf37b⟩, rR8, rR25, rR31, rR35⟩, hcE, hPZ, hDZ, hPY, rw_D hDY, rw_dj hdj, hS⟩ (lv_sub hl [2, 3, 4, 5, 6] rfl) hcp9 (show (st 13).toInt ≤ (st9 13).toInt by omega) (show (st9 13).toInt ≤ (st 13).toInt + 16 by omega) (by omega) (by omega)

set_option maxHeartbeats 4000000 in
set_option maxRecDepth 100000 in
theorem lwq_13 {p : Program} {e : Env} {s : State} {m : MethodId} {below : List Frame} {meth : Method} {cM : Code} (l : Launch) (hl0 : l.stackTraces = false) {A : Nat → Prop} {dC : Nat → ClassId} {dI : Nat → Nat → Nat} {b L e0 : Nat} {xs : Nat → Int32} (kc kR : Nat → ClassId) (ko : ClassId) (oa o : Nat) (cR : Nat → Nat) (c : Nat → Nat) (st : Nat → Int32) (lg : Nat → Int64) (ai : Nat → Nat → Int32) (al : Nat → Nat → Int64) (R : va_W) (cap : Nat) (num : Nat → Int32) (fo : Nat → Int64) (stR : Nat → Int32) (lgR : Nat → Int64) (aiR : Nat → Nat → Int32) (alR : Nat → Nat → Int64) (H : Heap) (locs : List Loc) (ls : Array Slot) (i : Int32) (K0 M0 : Nat) (C0 : lwB p s m meth cM b L xs A e0) (hK : va_K (dC, dI) vwCl (cw_T kc) s) (hKo : va_K (dC, dI) vwCl [(ko, .long)] s) (hKR : va_K (dC, dI) vwCl (rw_T kR) s) (hS0 : lwS (dC, dI) A s e0 kc kR ko oa o cR c st lg ai al R cap num fo stR lgR aiR alR H locs) (hl : lv_has ls 8 [(4, .int i), (3, .ref oa), (2, .ref o), (1, .ref (c 100)), (0, .ref b)]) (hi : 1 ≤ i.toInt) (hi2 : i.toInt + 4 < (L : Int)) (hL : L ≤ 2561) (hK0 : K0 + 100 ≤ 601024) (hM0 : M0 + 1200000 ≤ 7293000) (kk : ∀ (e9 : Nat) (st9 : Nat → Int32) (lg9 : Nat → Int64) (ai9 : Nat → Nat → Int32) (al9 : Nat → Nat → Int64) (R9 : va_W) (cap9 : Nat) (num9 : Nat → Int32) (f9 : Nat → Int64) (sR9 : Nat → Int32) (lR9 : Nat → Int64) (aR9 : Nat → Nat → Int32) (bR9 : Nat → Nat → Int64) (H : Heap) (locs : List Loc) (ls : Array Slot) (K9 M9 : Nat), lwS (dC, dI) A s e0 kc kR ko oa o cR (rU c 99 e9) st9 lg9 ai9 al9 R9 cap9 num9 f9 sR9 lR9 aR9 bR9 H locs → lv_has ls 8 [(4, .int i), (3, .ref oa), (2, .ref o), (1, .ref (c 100)), (0, .ref b)] → cap ≤ cap9 → (st 13).toInt ≤ (st9 13).toInt → (st9 13).toInt ≤ (st 13).toInt + 16 → (K9 : Int) ≤ (K0 : Int) + 3 + 3 * ((st9 13).toInt - (st 13).toInt) → (M9 : Int) ≤ (M0 : Int) + 18 + 29 * ((st9 13).toInt - (st 13).toInt) + 4 * ((cap9 : Int) - (cap : Int)) → W p l e room_1 s m #[Value.ref b] below meth cM H locs K9 M9 (lw_Z below #[Value.ref b] s) (F0 m 1103 ls [])) : W p l e room_1 s m #[Value.ref b] below meth cM H locs K0 M0 (lw_Z below #[Value.ref b] s) (F0 m 749 ls []) := by
  obtain ⟨hx, hb, hr, hml, hown, hts, hX, hbl, hlocks, hA, hA9, hbA, hY⟩ := C0
  obtain ⟨hI, hJ, hcE, hPZ, hDZ, hPY, hDY, hdj, hS⟩ := hS0
  obtain ⟨⟨rf1a, rf1b⟩, ⟨rf2a, rf2b⟩, ⟨rf3a, rf3b⟩, ⟨rf6a, rf6b⟩, ⟨rf7a, rf7b⟩, ⟨rf9a, rf9b⟩, ⟨rf12a, rf12b⟩, ⟨rf15a, rf15b⟩, ⟨rf16a, rf16b⟩, ⟨rf17a, rf17b⟩, ⟨rf21a, rf21b⟩, ⟨rf22a, rf22b⟩, ⟨rf24a, rf24b⟩, ⟨rf26a, rf26b⟩, ⟨rf30a, rf30b⟩, ⟨rf32a, rf32b⟩, ⟨rf37a, rf37b⟩, rR8, rR25, rR31, rR35⟩ := hJ
  have hG := hY.1
  have hGW := hG.1
  have z_1 : (1 : Int32).toInt = 1 := by decide
  have z_2 : (2 : Int32).toInt = 2 := by decide
  refine lv_aload_n hx hb dL_law_749 rfl (lv_at hl 3 rfl) ?_
  refine lv_aload_n hx hb dL_law_750 rfl (lv_at hl 4 rfl) ?_
  refine lv_iload hx hb dL_law_751 (lv_at hl 0 rfl) ?_
  refine lv_iconst (v := 1) hx hb dL_law_753 (by decide) ?_
  refine lv_iadd hx hb dL_law_754 ?_
  refine lv_topi (fun v_1 ev_1 => ?_)
  have rg1 := iv_rng i
  have hv_1 : v_1.toInt = i.toInt + 1 := by rw [ev_1]; exact (iv_add (by omega) (by omega)).trans (by omega)
  clear ev_1
  refine va_sld hx hb hX hbl hbA hS (iv_in (i := v_1) (by omega) (by omega)) dL_law_755 ?_
  refine lv_topi (fun v_2 ev_2 => ?_)
  clear ev_2
  refine lv_aload_n hx hb dL_law_756 rfl (lv_at hl 4 rfl) ?_
  refine lv_iload hx hb dL_law_757 (lv_at hl 0 rfl) ?_
  refine lv_iconst (v := 2) hx hb dL_law_759 (by decide) ?_
  refine lv_iadd hx hb dL_law_760 ?_
  refine lv_topi (fun v_3 ev_3 => ?_)
  have hv_3 : v_3.toInt = i.toInt + 2 := by rw [ev_3]; exact (iv_add (by omega) (by omega)).trans (by omega)
  clear ev_3
  refine va_sld hx hb hX hbl hbA hS (iv_in (i := v_3) (by omega) (by omega)) dL_law_761 ?_
  refine lv_topi (fun v_4 ev_4 => ?_)
  clear ev_4
  refine lv_aload_n hx hb dL_law_762 rfl (lv_at hl 1 rfl) ?_
  refine W_read (fun hu1 hu2 => ?_)
  have hFc := vfree hDZ hS hA
  refine va_calli (vx_runSW (As := [.ref (c 100), .int v_2, .int v_4, .ref oa]) (rest := []) ⟨hx, hb, hml, hown, hts⟩ (h_L_byteOf l hl0 dC dI c kc st lg ai al R cap num oa ko fo v_2 v_4 _ _ hI) (vx_cwSW 4 hts gL_law_L_byteOf rfl rfl rfl (by decide +kernel) ⟨Nat.le_of_ble_eq_true rfl, Nat.le_of_ble_eq_true rfl⟩) ⟨fun a U g mk q => by obtain ⟨q0, q1, q2, qP, qK, qO, qD, qG⟩ := q; exact ⟨q0, q1, q2, qP, va_K.moved (u := U) (U := U.calling g mk a) (Vm.Alike.refl U.vm) qK, va_K.moved (u := U) (U := U.calling g mk a) (Vm.Alike.refl U.vm) qO, qD, qG.same rfl rfl⟩, fun U hU hW => ⟨rfl, by rw [hU], by rw [hU], by rw [hU]; exact hPZ, va_K.moved hW.alike hK, va_K.moved hW.alike hKo, hDZ.weaken (fun _ _ _ _ => trivial), hY.go hW hU hS hFc (fun h => ⟨rfl, hcE h⟩)⟩⟩ rfl rfl hl.1 rfl (lv_room (Nat.le_of_ble_eq_true rfl)) dL_law_763 ⟨by show K0 + 2 ≤ 601024; omega, by show M0 + 12 ≤ 7293000; omega⟩) hS (fun q _ h => hFc q h) hFc (fun r u t H1 locs ht hvm er hB hz1 hk1 hS => ?_)
  subst er
  obtain ⟨e9, st9, lg9, ai9, al9, R9, cap9, num9, f9, hI9, hc9, hcp9, hn1, hn2, hs1, hs2, hP9, hD9⟩ := hB
  have hN9 : (cap9 : Int) ≤ 10 + 2 * (st9 13).toInt := by have hI := hI9; obtain ⟨⟨hf3a, hf3b⟩, ⟨hf5a, hf5b⟩, ⟨hf6a, hf6b⟩, ⟨hf9a, hf9b⟩, ⟨hf13a, hf13b⟩, ⟨hf15a, hf15b⟩, ⟨hf17a, hf17b⟩, ⟨hf25a, hf25b⟩, ⟨hf26a, hf26b⟩, ⟨hf27a, hf27b⟩, ⟨hf28a, hf28b⟩, ⟨hf37a, hf37b⟩, hR4, hR7, hR23, hR32, hR33, hPI, hN⟩ := hI; exact hN.1
  have hb9 : (st9 13).toInt ≤ 65536 := by have hI := hI9; obtain ⟨⟨hf3a, hf3b⟩, ⟨hf5a, hf5b⟩, ⟨hf6a, hf6b⟩, ⟨hf9a, hf9b⟩, ⟨hf13a, hf13b⟩, ⟨hf15a, hf15b⟩, ⟨hf17a, hf17b⟩, ⟨hf25a, hf25b⟩, ⟨hf26a, hf26b⟩, ⟨hf27a, hf27b⟩, ⟨hf28a, hf28b⟩, ⟨hf37a, hf37b⟩, hR4, hR7, hR23, hR32, hR33, hPI, hN⟩ := hI; exact hf13b
  rw [ht] at hP9 hs1 hs2
  have hdj9 := dj_new hPY hdj hD9
  have hPY := dj_keep hPY hdj hk1
  have hdj := hdj9
  have hDZ := hD9.weaken (fun _ _ _ h => hFc _ h)
  have hPZ := hP9
  have hcE : cap9 = 0 → (rU c 99 e9) 99 = e0 := fun h => (show e9 = e0 from (hc9 h).2.trans (hcE (hc9 h).1))
  obtain ⟨K1, hK1⟩ : ∃ k9 : Nat, (k9 : Int) = (K0 : Int) + 3 + 3 * ((st9 13).toInt - (st 13).toInt) := ⟨((K0 : Int) + 3 + 3 * ((st9 13).toInt - (st 13).toInt)).toNat, by omega⟩
  obtain ⟨M1, hM1⟩ : ∃ m9 : Nat, (m9 : Int) = (M0 : Int) + 18 + 29 * ((st9 13).toInt - (st 13).toInt) + 4 * ((cap9 : Int) - (cap : Int)) := ⟨((M0 : Int) + 18 + 29 * ((st9 13).toInt - (st 13).toInt) + 4 * ((cap9 : Int) - (cap : Int))).toNat, by omega⟩
  refine W_tight (k' := K1) (m' := M1) (by omega) (by omega) ?_
  clear hz1 hk1 hvm hs1 hs2 hu1 hu2 hP9 hD9 hdj9 hFc
  subst ht
  generalize t.heap = H at hPZ hPY hS ⊢
  refine lv_topi (fun r er9 => ?_)
  clear er9
  refine lv_istore (lv' := [(5, .int r), (4, .int i), (3, .ref oa), (2, .ref o), (1, .ref (c 100)), (0, .ref b)]) hx hb dL_law_766 hl (by decide) rfl (fun ls hl => ?_)
  refine lv_aload_n hx hb dL_law_768 rfl (lv_at hl 3 rfl) ?_
  refine lv_aload_n hx hb dL_law_769 rfl (lv_at hl 5 rfl) ?_
  refine lv_iload hx hb dL_law_770 (lv_at hl 1 rfl) ?_
  refine lv_iconst (v := 1) hx hb dL_law_772 (by decide) ?_
  refine lv_iadd hx hb dL_law_773 ?_
  refine lv_topi (fun v_5 ev_5 => ?_)
  have hv_5 : v_5.toInt = i.toInt + 1 := by rw [ev_5]; exact (iv_add (by omega) (by omega)).trans (by omega)
  clear ev_5
  refine va_sld hx hb hX hbl hbA hS (iv_in (i := v_5) (by omega) (by omega)) dL_law_774 ?_
  refine lv_topi (fun v_6 ev_6 => ?_)
  clear ev_6
  refine lv_aload_n hx hb dL_law_775 rfl (lv_at hl 5 rfl) ?_
  refine lv_iload hx hb dL_law_776 (lv_at hl 1 rfl) ?_
  refine lv_iconst (v := 2) hx hb dL_law_778 (by decide) ?_
  refine lv_iadd hx hb dL_law_779 ?_
  refine lv_topi (fun v_7 ev_7 => ?_)
  have hv_7 : v_7.toInt = i.toInt + 2 := by rw [ev_7]; exact (iv_add (by omega) (by omega)).trans (by omega)
  clear ev_7
  refine va_sld hx hb hX hbl hbA hS (iv_in (i := v_7) (by omega) (by omega)) dL_law_780 ?_
  refine lv_topi (fun v_8 ev_8 => ?_)
  clear ev_8
  have hFc := vfree (rw_D hDY : va_D A (rw_W o cR kR stR lgR aiR alR)) hS hA
  refine va_calli (va_runV (As := [.int v_6, .int v_8]) (rest := []) ⟨hx, hb, hml, hown, hts⟩ (v_X9_byteOf l dC dI o cR kR stR lgR aiR alR v_6 v_8 _ (show 1 ≤ (stR 1).toInt from rf1a) (show (stR 1).toInt ≤ 65536 from rf1b) (show 0 ≤ (stR 3).toInt from rf3a) (show (stR 3).toInt ≤ 1 from rf3b)) (cwV 2 hts gL_law_X9_byteOf rfl rfl rfl (by decide +kernel) ⟨Nat.le_of_ble_eq_true rfl, Nat.le_of_ble_eq_true rfl⟩) ⟨fun a U g mk q => by obtain ⟨q0, q1, qP, qK, qD⟩ := q; exact ⟨q0, q1, qP, va_K.moved (u := U) (U := U.calling g mk a) (Vm.Alike.refl U.vm) qK, qD⟩, va_recv hKR hPY (ci := 11) (q := (RX9, TX9, 38)) rfl (q0 := 0) rfl, fun U hU hW => ⟨rfl, by rw [hU], by rw [hU]; exact hPY, va_K.moved hW.alike hKR, (rw_D hDY).weaken (fun _ _ _ _ => trivial)⟩⟩ rfl rfl hl.1 rfl (lv_room (Nat.le_of_ble_eq_true rfl)) dL_law_781 ⟨by show K1 + 0 ≤ 601024; omega, by show M1 + 0 ≤ 7293000; omega⟩) hS (fun q _ h => hFc q h) hFc (fun r_9 u t H1 locs ht hvm er_9 hB hz1 hk1 hS => ?_)
  subst er_9
  obtain ⟨x13_9, hP1⟩ := hB
  rw [ht] at hP1
  have hPZ := dj_keep hPZ (dj_sym (rw_dj (lg' := lgR) (st' := stR) (ai' := aiR) (al' := alR) hdj)) hk1
  clear hPY hz1 hk1 hvm hFc
  subst ht
  have hPY := hP1
  clear hP1
  generalize t.heap = H at hPY hPZ hS ⊢
  have hPY : va_P (dC, dI) vwCl (rw_W o cR kR (rU stR 13 x13_9) lgR aiR alR) H := hPY
  refine lv_istore (lv' := [(6, .int r_9), (5, .int r), (4, .int i), (3, .ref oa), (2, .ref o), (1, .ref (c 100)), (0, .ref b)]) hx hb dL_law_784 hl (by decide) rfl (fun ls hl => ?_)
  refine lv_goto (tgt := 1103) hx hb dL_law_786 (by decide) ?_
  exact kk e9 st9 lg9 ai9 al9 R9 cap9 num9 f9 (rU stR 13 x13_9) lgR aiR alR _ locs ls K1 M1 ⟨hI9, ⟨⟨rf1a, rf1b⟩, ⟨rf2a, rf2b⟩, ⟨rf3a, rf3b⟩, ⟨rf6a, rf6b⟩, ⟨rf7a, rf7b⟩, ⟨rf9a, rf9b⟩, ⟨rf12a, rf12b⟩, ⟨rf15a, rf15b⟩, ⟨rf16a, rf16b⟩, ⟨rf17a, rf17b⟩, ⟨rf21a, rf21b⟩, ⟨rf22a, rf22b⟩, ⟨rf24a, rf24b⟩, ⟨rf26a, rf26b⟩, ⟨rf30a, rf30b⟩, ⟨rf32a, rf32b⟩, ⟨rf37a, rf37b⟩, rR8, rR25, rR31, rR35⟩, hcE, hPZ, hDZ, hPY, rw_D hDY, rw_dj hdj, hS⟩ (lv_sub hl [2, 3, 4, 5, 6] rfl) hcp9 (show (st 13).toInt ≤ (st9 13).toInt by omega) (show (st9 13).toInt ≤ (st 13).toInt + 16 by omega) (by omega) (by omega)

set_option maxHeartbeats 4000000 in
set_option maxRecDepth 100000 in
theorem lwq_14 {p : Program} {e : Env} {s : State} {m : MethodId} {below : List Frame} {meth : Method} {cM : Code} (l : Launch) (hl0 : l.stackTraces = false) {A : Nat → Prop} {dC : Nat → ClassId} {dI : Nat → Nat → Nat} {b L e0 : Nat} {xs : Nat → Int32} (kc kR : Nat → ClassId) (ko : ClassId) (oa o : Nat) (cR : Nat → Nat) (c : Nat → Nat) (st : Nat → Int32) (lg : Nat → Int64) (ai : Nat → Nat → Int32) (al : Nat → Nat → Int64) (R : va_W) (cap : Nat) (num : Nat → Int32) (fo : Nat → Int64) (stR : Nat → Int32) (lgR : Nat → Int64) (aiR : Nat → Nat → Int32) (alR : Nat → Nat → Int64) (H : Heap) (locs : List Loc) (ls : Array Slot) (i : Int32) (K0 M0 : Nat) (C0 : lwB p s m meth cM b L xs A e0) (hK : va_K (dC, dI) vwCl (cw_T kc) s) (hKo : va_K (dC, dI) vwCl [(ko, .long)] s) (hKR : va_K (dC, dI) vwCl (rw_T kR) s) (hS0 : lwS (dC, dI) A s e0 kc kR ko oa o cR c st lg ai al R cap num fo stR lgR aiR alR H locs) (hl : lv_has ls 8 [(4, .int i), (3, .ref oa), (2, .ref o), (1, .ref (c 100)), (0, .ref b)]) (hi : 1 ≤ i.toInt) (hi2 : i.toInt + 4 < (L : Int)) (hL : L ≤ 2561) (hK0 : K0 + 100 ≤ 601024) (hM0 : M0 + 1200000 ≤ 7293000) (kk : ∀ (e9 : Nat) (st9 : Nat → Int32) (lg9 : Nat → Int64) (ai9 : Nat → Nat → Int32) (al9 : Nat → Nat → Int64) (R9 : va_W) (cap9 : Nat) (num9 : Nat → Int32) (f9 : Nat → Int64) (sR9 : Nat → Int32) (lR9 : Nat → Int64) (aR9 : Nat → Nat → Int32) (bR9 : Nat → Nat → Int64) (H : Heap) (locs : List Loc) (ls : Array Slot) (K9 M9 : Nat), lwS (dC, dI) A s e0 kc kR ko oa o cR (rU c 99 e9) st9 lg9 ai9 al9 R9 cap9 num9 f9 sR9 lR9 aR9 bR9 H locs → lv_has ls 8 [(4, .int i), (3, .ref oa), (2, .ref o), (1, .ref (c 100)), (0, .ref b)] → cap ≤ cap9 → (st 13).toInt ≤ (st9 13).toInt → (st9 13).toInt ≤ (st 13).toInt + 16 → (K9 : Int) ≤ (K0 : Int) + 3 + 3 * ((st9 13).toInt - (st 13).toInt) → (M9 : Int) ≤ (M0 : Int) + 18 + 29 * ((st9 13).toInt - (st 13).toInt) + 4 * ((cap9 : Int) - (cap : Int)) → W p l e room_1 s m #[Value.ref b] below meth cM H locs K9 M9 (lw_Z below #[Value.ref b] s) (F0 m 1103 ls [])) : W p l e room_1 s m #[Value.ref b] below meth cM H locs K0 M0 (lw_Z below #[Value.ref b] s) (F0 m 789 ls []) := by
  obtain ⟨hx, hb, hr, hml, hown, hts, hX, hbl, hlocks, hA, hA9, hbA, hY⟩ := C0
  obtain ⟨hI, hJ, hcE, hPZ, hDZ, hPY, hDY, hdj, hS⟩ := hS0
  obtain ⟨⟨rf1a, rf1b⟩, ⟨rf2a, rf2b⟩, ⟨rf3a, rf3b⟩, ⟨rf6a, rf6b⟩, ⟨rf7a, rf7b⟩, ⟨rf9a, rf9b⟩, ⟨rf12a, rf12b⟩, ⟨rf15a, rf15b⟩, ⟨rf16a, rf16b⟩, ⟨rf17a, rf17b⟩, ⟨rf21a, rf21b⟩, ⟨rf22a, rf22b⟩, ⟨rf24a, rf24b⟩, ⟨rf26a, rf26b⟩, ⟨rf30a, rf30b⟩, ⟨rf32a, rf32b⟩, ⟨rf37a, rf37b⟩, rR8, rR25, rR31, rR35⟩ := hJ
  have hG := hY.1
  have hGW := hG.1
  have z_1 : (1 : Int32).toInt = 1 := by decide
  refine lv_aload_n hx hb dL_law_789 rfl (lv_at hl 3 rfl) ?_
  refine lv_aload_n hx hb dL_law_790 rfl (lv_at hl 4 rfl) ?_
  refine lv_iload hx hb dL_law_791 (lv_at hl 0 rfl) ?_
  refine lv_iconst (v := 1) hx hb dL_law_793 (by decide) ?_
  refine lv_iadd hx hb dL_law_794 ?_
  refine lv_topi (fun v_1 ev_1 => ?_)
  have rg1 := iv_rng i
  have hv_1 : v_1.toInt = i.toInt + 1 := by rw [ev_1]; exact (iv_add (by omega) (by omega)).trans (by omega)
  clear ev_1
  refine va_sld hx hb hX hbl hbA hS (iv_in (i := v_1) (by omega) (by omega)) dL_law_795 ?_
  refine lv_topi (fun v_2 ev_2 => ?_)
  clear ev_2
  refine lv_aload_n hx hb dL_law_796 rfl (lv_at hl 1 rfl) ?_
  refine W_read (fun hu1 hu2 => ?_)
  have hFc := vfree hDZ hS hA
  refine va_calli (vx_runSW (As := [.ref (c 100), .int v_2, .ref oa]) (rest := []) ⟨hx, hb, hml, hown, hts⟩ (h_L_named l hl0 dC dI c kc st lg ai al R cap num oa ko fo v_2 _ _ hI) (vx_cwSW 3 hts gL_law_L_named rfl rfl rfl (by decide +kernel) ⟨Nat.le_of_ble_eq_true rfl, Nat.le_of_ble_eq_true rfl⟩) ⟨fun a U g mk q => by obtain ⟨q0, q1, q2, qP, qK, qO, qD, qG⟩ := q; exact ⟨q0, q1, q2, qP, va_K.moved (u := U) (U := U.calling g mk a) (Vm.Alike.refl U.vm) qK, va_K.moved (u := U) (U := U.calling g mk a) (Vm.Alike.refl U.vm) qO, qD, qG.same rfl rfl⟩, fun U hU hW => ⟨rfl, by rw [hU], by rw [hU], by rw [hU]; exact hPZ, va_K.moved hW.alike hK, va_K.moved hW.alike hKo, hDZ.weaken (fun _ _ _ _ => trivial), hY.go hW hU hS hFc (fun h => ⟨rfl, hcE h⟩)⟩⟩ rfl rfl hl.1 rfl (lv_room (Nat.le_of_ble_eq_true rfl)) dL_law_797 ⟨by show K0 + 2 ≤ 601024; omega, by show M0 + 12 ≤ 7293000; omega⟩) hS (fun q _ h => hFc q h) hFc (fun r u t H1 locs ht hvm er hB hz1 hk1 hS => ?_)
  subst er
  obtain ⟨e9, st9, lg9, ai9, al9, R9, cap9, num9, f9, hI9, hc9, hcp9, hn1, hn2, hs1, hs2, hP9, hD9⟩ := hB
  have hN9 : (cap9 : Int) ≤ 10 + 2 * (st9 13).toInt := by have hI := hI9; obtain ⟨⟨hf3a, hf3b⟩, ⟨hf5a, hf5b⟩, ⟨hf6a, hf6b⟩, ⟨hf9a, hf9b⟩, ⟨hf13a, hf13b⟩, ⟨hf15a, hf15b⟩, ⟨hf17a, hf17b⟩, ⟨hf25a, hf25b⟩, ⟨hf26a, hf26b⟩, ⟨hf27a, hf27b⟩, ⟨hf28a, hf28b⟩, ⟨hf37a, hf37b⟩, hR4, hR7, hR23, hR32, hR33, hPI, hN⟩ := hI; exact hN.1
  have hb9 : (st9 13).toInt ≤ 65536 := by have hI := hI9; obtain ⟨⟨hf3a, hf3b⟩, ⟨hf5a, hf5b⟩, ⟨hf6a, hf6b⟩, ⟨hf9a, hf9b⟩, ⟨hf13a, hf13b⟩, ⟨hf15a, hf15b⟩, ⟨hf17a, hf17b⟩, ⟨hf25a, hf25b⟩, ⟨hf26a, hf26b⟩, ⟨hf27a, hf27b⟩, ⟨hf28a, hf28b⟩, ⟨hf37a, hf37b⟩, hR4, hR7, hR23, hR32, hR33, hPI, hN⟩ := hI; exact hf13b
  rw [ht] at hP9 hs1 hs2
  have hdj9 := dj_new hPY hdj hD9
  have hPY := dj_keep hPY hdj hk1
  have hdj := hdj9
  have hDZ := hD9.weaken (fun _ _ _ h => hFc _ h)
  have hPZ := hP9
  have hcE : cap9 = 0 → (rU c 99 e9) 99 = e0 := fun h => (show e9 = e0 from (hc9 h).2.trans (hcE (hc9 h).1))
  obtain ⟨K1, hK1⟩ : ∃ k9 : Nat, (k9 : Int) = (K0 : Int) + 3 + 3 * ((st9 13).toInt - (st 13).toInt) := ⟨((K0 : Int) + 3 + 3 * ((st9 13).toInt - (st 13).toInt)).toNat, by omega⟩
  obtain ⟨M1, hM1⟩ : ∃ m9 : Nat, (m9 : Int) = (M0 : Int) + 18 + 29 * ((st9 13).toInt - (st 13).toInt) + 4 * ((cap9 : Int) - (cap : Int)) := ⟨((M0 : Int) + 18 + 29 * ((st9 13).toInt - (st 13).toInt) + 4 * ((cap9 : Int) - (cap : Int))).toNat, by omega⟩
  refine W_tight (k' := K1) (m' := M1) (by omega) (by omega) ?_
  clear hz1 hk1 hvm hs1 hs2 hu1 hu2 hP9 hD9 hdj9 hFc
  subst ht
  generalize t.heap = H at hPZ hPY hS ⊢
  refine lv_topi (fun r er9 => ?_)
  clear er9
  refine lv_istore (lv' := [(5, .int r), (4, .int i), (3, .ref oa), (2, .ref o), (1, .ref (c 100)), (0, .ref b)]) hx hb dL_law_800 hl (by decide) rfl (fun ls hl => ?_)
  refine lv_aload_n hx hb dL_law_802 rfl (lv_at hl 3 rfl) ?_
  refine lv_aload_n hx hb dL_law_803 rfl (lv_at hl 5 rfl) ?_
  refine lv_iload hx hb dL_law_804 (lv_at hl 1 rfl) ?_
  refine lv_iconst (v := 1) hx hb dL_law_806 (by decide) ?_
  refine lv_iadd hx hb dL_law_807 ?_
  refine lv_topi (fun v_3 ev_3 => ?_)
  have hv_3 : v_3.toInt = i.toInt + 1 := by rw [ev_3]; exact (iv_add (by omega) (by omega)).trans (by omega)
  clear ev_3
  refine va_sld hx hb hX hbl hbA hS (iv_in (i := v_3) (by omega) (by omega)) dL_law_808 ?_
  refine lv_topi (fun v_4 ev_4 => ?_)
  clear ev_4
  have hFc := vfree (rw_D hDY : va_D A (rw_W o cR kR stR lgR aiR alR)) hS hA
  refine va_calli (va_runV (As := [.int v_4]) (rest := []) ⟨hx, hb, hml, hown, hts⟩ (v_X9_named l dC dI o cR kR stR lgR aiR alR v_4 _ (show 1 ≤ (stR 1).toInt from rf1a) (show (stR 1).toInt ≤ 65536 from rf1b) (show 0 ≤ (stR 3).toInt from rf3a) (show (stR 3).toInt ≤ 1 from rf3b) (show 0 ≤ (stR 7).toInt from rf7a) (show (stR 7).toInt ≤ 1 from rf7b) (show 0 ≤ (stR 15).toInt from rf15a) (show (stR 15).toInt ≤ 128 from rf15b) (show 0 ≤ (stR 16).toInt from rf16a) (show (stR 16).toInt ≤ 128 from rf16b) (show 0 ≤ (stR 17).toInt from rf17a) (show (stR 17).toInt ≤ 1 from rf17b) (show -1 ≤ (stR 21).toInt from rf21a) (show (stR 21).toInt ≤ 127 from rf21b) (show 0 ≤ (stR 22).toInt from rf22a) (show (stR 22).toInt ≤ 1000000 from rf22b) (show 0 ≤ (stR 24).toInt from rf24a) (show (stR 24).toInt ≤ 1 from rf24b) (show 0 ≤ (stR 26).toInt from rf26a) (show (stR 26).toInt ≤ 2000000 from rf26b) (show 0 ≤ (stR 30).toInt from rf30a) (show (stR 30).toInt ≤ 128 from rf30b) (show aR (aiR 25) 130 (0) 127 from rR25)) (cwV 1 hts gL_law_X9_named rfl rfl rfl (by decide +kernel) ⟨Nat.le_of_ble_eq_true rfl, Nat.le_of_ble_eq_true rfl⟩) ⟨fun a U g mk q => by obtain ⟨q0, q1, qP, qK, qD⟩ := q; exact ⟨q0, q1, qP, va_K.moved (u := U) (U := U.calling g mk a) (Vm.Alike.refl U.vm) qK, qD⟩, va_recv hKR hPY (ci := 11) (q := (RX9, TX9, 38)) rfl (q0 := 0) rfl, fun U hU hW => ⟨rfl, by rw [hU], by rw [hU]; exact hPY, va_K.moved hW.alike hKR, (rw_D hDY).weaken (fun _ _ _ _ => trivial)⟩⟩ rfl rfl hl.1 rfl (lv_room (Nat.le_of_ble_eq_true rfl)) dL_law_809 ⟨by show K1 + 0 ≤ 601024; omega, by show M1 + 0 ≤ 7293000; omega⟩) hS (fun q _ h => hFc q h) hFc (fun r_5 u t H1 locs ht hvm er_5 hB hz1 hk1 hS => ?_)
  subst er_5
  obtain ⟨x13_5, x16_5, x17_5, x21_5, x22_5, x24_5, x26_5, x30_5, y23_5, y27_5, f19_5, f20_5, f25_5, g18_5, g28_5, g29_5, y90_5, y91_5, y92_5, y93_5, y94_5, y95_5, y96_5, y97_5, y98_5, y99_5, y910_5, y911_5, y912_5, y913_5, y914_5, y915_5, rR25, hP1⟩ := hB
  rw [ht] at hP1
  have hPZ := dj_keep hPZ (dj_sym (rw_dj (lg' := lgR) (st' := stR) (ai' := aiR) (al' := alR) hdj)) hk1
  clear hPY hz1 hk1 hvm hFc
  subst ht
  have hPY := hP1
  clear hP1
  generalize t.heap = H at hPY hPZ hS ⊢
  have hPY : va_P (dC, dI) vwCl (rw_W o cR kR (rU (rU (rU (rU (rU (rU (rU (rU stR 13 x13_5) 16 x16_5) 17 x17_5) 21 x21_5) 22 x22_5) 24 x24_5) 26 x26_5) 30 x30_5) (rU (rU lgR 23 y23_5) 27 y27_5) (rU (rU (rU aiR 19 f19_5) 20 f20_5) 25 f25_5) (rU (rU (rU alR 18 g18_5) 28 g28_5) 29 g29_5)) H := hPY
  have rf16a : 0 ≤ x16_5.toInt := y92_5
  have rf16b : x16_5.toInt ≤ 128 := y93_5
  have rf17a : 0 ≤ x17_5.toInt := y94_5
  have rf17b : x17_5.toInt ≤ 1 := y95_5
  have rf21a : -1 ≤ x21_5.toInt := y96_5
  have rf21b : x21_5.toInt ≤ 127 := y97_5
  have rf22a : 0 ≤ x22_5.toInt := y98_5
  have rf22b : x22_5.toInt ≤ 1000000 := y99_5
  have rf24a : 0 ≤ x24_5.toInt := y910_5
  have rf24b : x24_5.toInt ≤ 1 := y911_5
  have rf26a : 0 ≤ x26_5.toInt := y912_5
  have rf26b : x26_5.toInt ≤ 2000000 := y913_5
  have rf30a : 0 ≤ x30_5.toInt := y914_5
  have rf30b : x30_5.toInt ≤ 128 := y915_5
  have rR25 : aR f25_5 130 (0) 127 := rR25
  refine lv_istore (lv' := [(6, .int r_5), (5, .int r), (4, .int i), (3, .ref oa), (2, .ref o), (1, .ref (c 100)), (0, .ref b)]) hx hb dL_law_812 hl (by decide) rfl (fun ls hl => ?_)
  refine lv_goto (tgt := 1103) hx hb dL_law_814 (by decide) ?_
  exact kk e9 st9 lg9 ai9 al9 R9 cap9 num9 f9 (rU (rU (rU (rU (rU (rU (rU (rU stR 13 x13_5) 16 x16_5) 17 x17_5) 21 x21_5) 22 x22_5) 24 x24_5) 26 x26_5) 30 x30_5) (rU (rU lgR 23 y23_5) 27 y27_5) (rU (rU (rU aiR 19 f19_5) 20 f20_5) 25 f25_5) (rU (rU (rU alR 18 g18_5) 28 g28_5) 29 g29_5) _ locs ls K1 M1 ⟨hI9, ⟨⟨rf1a, rf1b⟩, ⟨rf2a, rf2b⟩, ⟨rf3a, rf3b⟩, ⟨rf6a, rf6b⟩, ⟨rf7a, rf7b⟩, ⟨rf9a, rf9b⟩, ⟨rf12a, rf12b⟩, ⟨rf15a, rf15b⟩, ⟨rf16a, rf16b⟩, ⟨rf17a, rf17b⟩, ⟨rf21a, rf21b⟩, ⟨rf22a, rf22b⟩, ⟨rf24a, rf24b⟩, ⟨rf26a, rf26b⟩, ⟨rf30a, rf30b⟩, ⟨rf32a, rf32b⟩, ⟨rf37a, rf37b⟩, rR8, rR25, rR31, rR35⟩, hcE, hPZ, hDZ, hPY, rw_D hDY, rw_dj hdj, hS⟩ (lv_sub hl [2, 3, 4, 5, 6] rfl) hcp9 (show (st 13).toInt ≤ (st9 13).toInt by omega) (show (st9 13).toInt ≤ (st 13).toInt + 16 by omega) (by omega) (by omega)

set_option maxHeartbeats 4000000 in
set_option maxRecDepth 100000 in
theorem lwq_15 {p : Program} {e : Env} {s : State} {m : MethodId} {below : List Frame} {meth : Method} {cM : Code} (l : Launch) (hl0 : l.stackTraces = false) {A : Nat → Prop} {dC : Nat → ClassId} {dI : Nat → Nat → Nat} {b L e0 : Nat} {xs : Nat → Int32} (kc kR : Nat → ClassId) (ko : ClassId) (oa o : Nat) (cR : Nat → Nat) (c : Nat → Nat) (st : Nat → Int32) (lg : Nat → Int64) (ai : Nat → Nat → Int32) (al : Nat → Nat → Int64) (R : va_W) (cap : Nat) (num : Nat → Int32) (fo : Nat → Int64) (stR : Nat → Int32) (lgR : Nat → Int64) (aiR : Nat → Nat → Int32) (alR : Nat → Nat → Int64) (H : Heap) (locs : List Loc) (ls : Array Slot) (i : Int32) (K0 M0 : Nat) (C0 : lwB p s m meth cM b L xs A e0) (hK : va_K (dC, dI) vwCl (cw_T kc) s) (hKo : va_K (dC, dI) vwCl [(ko, .long)] s) (hKR : va_K (dC, dI) vwCl (rw_T kR) s) (hS0 : lwS (dC, dI) A s e0 kc kR ko oa o cR c st lg ai al R cap num fo stR lgR aiR alR H locs) (hl : lv_has ls 8 [(4, .int i), (3, .ref oa), (2, .ref o), (1, .ref (c 100)), (0, .ref b)]) (hi : 1 ≤ i.toInt) (hi2 : i.toInt + 4 < (L : Int)) (hL : L ≤ 2561) (hK0 : K0 + 100 ≤ 601024) (hM0 : M0 + 1200000 ≤ 7293000) (kk : ∀ (e9 : Nat) (st9 : Nat → Int32) (lg9 : Nat → Int64) (ai9 : Nat → Nat → Int32) (al9 : Nat → Nat → Int64) (R9 : va_W) (cap9 : Nat) (num9 : Nat → Int32) (f9 : Nat → Int64) (sR9 : Nat → Int32) (lR9 : Nat → Int64) (aR9 : Nat → Nat → Int32) (bR9 : Nat → Nat → Int64) (H : Heap) (locs : List Loc) (ls : Array Slot) (K9 M9 : Nat), lwS (dC, dI) A s e0 kc kR ko oa o cR (rU c 99 e9) st9 lg9 ai9 al9 R9 cap9 num9 f9 sR9 lR9 aR9 bR9 H locs → lv_has ls 8 [(4, .int i), (3, .ref oa), (2, .ref o), (1, .ref (c 100)), (0, .ref b)] → cap ≤ cap9 → (st 13).toInt ≤ (st9 13).toInt → (st9 13).toInt ≤ (st 13).toInt + 16 → (K9 : Int) ≤ (K0 : Int) + 3 + 3 * ((st9 13).toInt - (st 13).toInt) → (M9 : Int) ≤ (M0 : Int) + 18 + 29 * ((st9 13).toInt - (st 13).toInt) + 4 * ((cap9 : Int) - (cap : Int)) → W p l e room_1 s m #[Value.ref b] below meth cM H locs K9 M9 (lw_Z below #[Value.ref b] s) (F0 m 1103 ls [])) : W p l e room_1 s m #[Value.ref b] below meth cM H locs K0 M0 (lw_Z below #[Value.ref b] s) (F0 m 817 ls []) := by
  obtain ⟨hx, hb, hr, hml, hown, hts, hX, hbl, hlocks, hA, hA9, hbA, hY⟩ := C0
  obtain ⟨hI, hJ, hcE, hPZ, hDZ, hPY, hDY, hdj, hS⟩ := hS0
  obtain ⟨⟨rf1a, rf1b⟩, ⟨rf2a, rf2b⟩, ⟨rf3a, rf3b⟩, ⟨rf6a, rf6b⟩, ⟨rf7a, rf7b⟩, ⟨rf9a, rf9b⟩, ⟨rf12a, rf12b⟩, ⟨rf15a, rf15b⟩, ⟨rf16a, rf16b⟩, ⟨rf17a, rf17b⟩, ⟨rf21a, rf21b⟩, ⟨rf22a, rf22b⟩, ⟨rf24a, rf24b⟩, ⟨rf26a, rf26b⟩, ⟨rf30a, rf30b⟩, ⟨rf32a, rf32b⟩, ⟨rf37a, rf37b⟩, rR8, rR25, rR31, rR35⟩ := hJ
  have hG := hY.1
  have hGW := hG.1
  have z_1 : (1 : Int32).toInt = 1 := by decide
  refine lv_aload_n hx hb dL_law_817 rfl (lv_at hl 3 rfl) ?_
  refine lv_aload_n hx hb dL_law_818 rfl (lv_at hl 4 rfl) ?_
  refine lv_iload hx hb dL_law_819 (lv_at hl 0 rfl) ?_
  refine lv_iconst (v := 1) hx hb dL_law_821 (by decide) ?_
  refine lv_iadd hx hb dL_law_822 ?_
  refine lv_topi (fun v_1 ev_1 => ?_)
  have rg1 := iv_rng i
  have hv_1 : v_1.toInt = i.toInt + 1 := by rw [ev_1]; exact (iv_add (by omega) (by omega)).trans (by omega)
  clear ev_1
  refine va_sld hx hb hX hbl hbA hS (iv_in (i := v_1) (by omega) (by omega)) dL_law_823 ?_
  refine lv_topi (fun v_2 ev_2 => ?_)
  clear ev_2
  refine lv_aload_n hx hb dL_law_824 rfl (lv_at hl 1 rfl) ?_
  refine W_read (fun hu1 hu2 => ?_)
  have hFc := vfree hDZ hS hA
  refine va_calli (vx_runSW (As := [.ref (c 100), .int v_2, .ref oa]) (rest := []) ⟨hx, hb, hml, hown, hts⟩ (h_L_prune l hl0 dC dI c kc st lg ai al R cap num oa ko fo v_2 _ _ hI) (vx_cwSW 3 hts gL_law_L_prune rfl rfl rfl (by decide +kernel) ⟨Nat.le_of_ble_eq_true rfl, Nat.le_of_ble_eq_true rfl⟩) ⟨fun a U g mk q => by obtain ⟨q0, q1, q2, qP, qK, qO, qD, qG⟩ := q; exact ⟨q0, q1, q2, qP, va_K.moved (u := U) (U := U.calling g mk a) (Vm.Alike.refl U.vm) qK, va_K.moved (u := U) (U := U.calling g mk a) (Vm.Alike.refl U.vm) qO, qD, qG.same rfl rfl⟩, fun U hU hW => ⟨rfl, by rw [hU], by rw [hU], by rw [hU]; exact hPZ, va_K.moved hW.alike hK, va_K.moved hW.alike hKo, hDZ.weaken (fun _ _ _ _ => trivial), hY.go hW hU hS hFc (fun h => ⟨rfl, hcE h⟩)⟩⟩ rfl rfl hl.1 rfl (lv_room (Nat.le_of_ble_eq_true rfl)) dL_law_825 ⟨by show K0 + 2 ≤ 601024; omega, by show M0 + 12 ≤ 7293000; omega⟩) hS (fun q _ h => hFc q h) hFc (fun r u t H1 locs ht hvm er hB hz1 hk1 hS => ?_)
  subst er
  obtain ⟨e9, st9, lg9, ai9, al9, R9, cap9, num9, f9, hI9, hc9, hcp9, hn1, hn2, hs1, hs2, hP9, hD9⟩ := hB
  have hN9 : (cap9 : Int) ≤ 10 + 2 * (st9 13).toInt := by have hI := hI9; obtain ⟨⟨hf3a, hf3b⟩, ⟨hf5a, hf5b⟩, ⟨hf6a, hf6b⟩, ⟨hf9a, hf9b⟩, ⟨hf13a, hf13b⟩, ⟨hf15a, hf15b⟩, ⟨hf17a, hf17b⟩, ⟨hf25a, hf25b⟩, ⟨hf26a, hf26b⟩, ⟨hf27a, hf27b⟩, ⟨hf28a, hf28b⟩, ⟨hf37a, hf37b⟩, hR4, hR7, hR23, hR32, hR33, hPI, hN⟩ := hI; exact hN.1
  have hb9 : (st9 13).toInt ≤ 65536 := by have hI := hI9; obtain ⟨⟨hf3a, hf3b⟩, ⟨hf5a, hf5b⟩, ⟨hf6a, hf6b⟩, ⟨hf9a, hf9b⟩, ⟨hf13a, hf13b⟩, ⟨hf15a, hf15b⟩, ⟨hf17a, hf17b⟩, ⟨hf25a, hf25b⟩, ⟨hf26a, hf26b⟩, ⟨hf27a, hf27b⟩, ⟨hf28a, hf28b⟩, ⟨hf37a, hf37b⟩, hR4, hR7, hR23, hR32, hR33, hPI, hN⟩ := hI; exact hf13b
  rw [ht] at hP9 hs1 hs2
  have hdj9 := dj_new hPY hdj hD9
  have hPY := dj_keep hPY hdj hk1
  have hdj := hdj9
  have hDZ := hD9.weaken (fun _ _ _ h => hFc _ h)
  have hPZ := hP9
  have hcE : cap9 = 0 → (rU c 99 e9) 99 = e0 := fun h => (show e9 = e0 from (hc9 h).2.trans (hcE (hc9 h).1))
  obtain ⟨K1, hK1⟩ : ∃ k9 : Nat, (k9 : Int) = (K0 : Int) + 3 + 3 * ((st9 13).toInt - (st 13).toInt) := ⟨((K0 : Int) + 3 + 3 * ((st9 13).toInt - (st 13).toInt)).toNat, by omega⟩
  obtain ⟨M1, hM1⟩ : ∃ m9 : Nat, (m9 : Int) = (M0 : Int) + 18 + 29 * ((st9 13).toInt - (st 13).toInt) + 4 * ((cap9 : Int) - (cap : Int)) := ⟨((M0 : Int) + 18 + 29 * ((st9 13).toInt - (st 13).toInt) + 4 * ((cap9 : Int) - (cap : Int))).toNat, by omega⟩
  refine W_tight (k' := K1) (m' := M1) (by omega) (by omega) ?_
  clear hz1 hk1 hvm hs1 hs2 hu1 hu2 hP9 hD9 hdj9 hFc
  subst ht
  generalize t.heap = H at hPZ hPY hS ⊢
  refine lv_topi (fun r er9 => ?_)
  clear er9
  refine lv_istore (lv' := [(5, .int r), (4, .int i), (3, .ref oa), (2, .ref o), (1, .ref (c 100)), (0, .ref b)]) hx hb dL_law_828 hl (by decide) rfl (fun ls hl => ?_)
  refine lv_aload_n hx hb dL_law_830 rfl (lv_at hl 3 rfl) ?_
  refine lv_aload_n hx hb dL_law_831 rfl (lv_at hl 5 rfl) ?_
  refine lv_iload hx hb dL_law_832 (lv_at hl 1 rfl) ?_
  refine lv_iconst (v := 1) hx hb dL_law_834 (by decide) ?_
  refine lv_iadd hx hb dL_law_835 ?_
  refine lv_topi (fun v_3 ev_3 => ?_)
  have hv_3 : v_3.toInt = i.toInt + 1 := by rw [ev_3]; exact (iv_add (by omega) (by omega)).trans (by omega)
  clear ev_3
  refine va_sld hx hb hX hbl hbA hS (iv_in (i := v_3) (by omega) (by omega)) dL_law_836 ?_
  refine lv_topi (fun v_4 ev_4 => ?_)
  clear ev_4
  have hFc := vfree (rw_D hDY : va_D A (rw_W o cR kR stR lgR aiR alR)) hS hA
  refine va_calli (va_runV (As := [.int v_4]) (rest := []) ⟨hx, hb, hml, hown, hts⟩ (v_X9_prune l dC dI o cR kR stR lgR aiR alR v_4 _ (show 1 ≤ (stR 1).toInt from rf1a) (show (stR 1).toInt ≤ 65536 from rf1b) (show 0 ≤ (stR 3).toInt from rf3a) (show (stR 3).toInt ≤ 1 from rf3b) (show 0 ≤ (stR 6).toInt from rf6a) (show (stR 6).toInt ≤ 1 from rf6b) (show 0 ≤ (stR 7).toInt from rf7a) (show (stR 7).toInt ≤ 1 from rf7b) (show 0 ≤ (stR 12).toInt from rf12a) (show (stR 12).toInt ≤ 8 from rf12b) (show 0 ≤ (stR 15).toInt from rf15a) (show (stR 15).toInt ≤ 128 from rf15b) (show 0 ≤ (stR 16).toInt from rf16a) (show (stR 16).toInt ≤ 128 from rf16b) (show 0 ≤ (stR 17).toInt from rf17a) (show (stR 17).toInt ≤ 1 from rf17b) (show -1 ≤ (stR 21).toInt from rf21a) (show (stR 21).toInt ≤ 127 from rf21b) (show 0 ≤ (stR 22).toInt from rf22a) (show (stR 22).toInt ≤ 1000000 from rf22b) (show 0 ≤ (stR 24).toInt from rf24a) (show (stR 24).toInt ≤ 1 from rf24b) (show 0 ≤ (stR 26).toInt from rf26a) (show (stR 26).toInt ≤ 2000000 from rf26b) (show 0 ≤ (stR 30).toInt from rf30a) (show (stR 30).toInt ≤ 128 from rf30b) (show 0 ≤ (stR 32).toInt from rf32a) (show (stR 32).toInt ≤ 128 from rf32b) (show aR (aiR 25) 130 (0) 127 from rR25) (show aR (aiR 31) 128 (0) 127 from rR31)) (cwV 1 hts gL_law_X9_prune rfl rfl rfl (by decide +kernel) ⟨Nat.le_of_ble_eq_true rfl, Nat.le_of_ble_eq_true rfl⟩) ⟨fun a U g mk q => by obtain ⟨q0, q1, qP, qK, qD⟩ := q; exact ⟨q0, q1, qP, va_K.moved (u := U) (U := U.calling g mk a) (Vm.Alike.refl U.vm) qK, qD⟩, va_recv hKR hPY (ci := 11) (q := (RX9, TX9, 38)) rfl (q0 := 0) rfl, fun U hU hW => ⟨rfl, by rw [hU], by rw [hU]; exact hPY, va_K.moved hW.alike hKR, (rw_D hDY).weaken (fun _ _ _ _ => trivial)⟩⟩ rfl rfl hl.1 rfl (lv_room (Nat.le_of_ble_eq_true rfl)) dL_law_837 ⟨by show K1 + 0 ≤ 601024; omega, by show M1 + 0 ≤ 7293000; omega⟩) hS (fun q _ h => hFc q h) hFc (fun r_5 u t H1 locs ht hvm er_5 hB hz1 hk1 hS => ?_)
  subst er_5
  obtain ⟨x3_5, x4_5, x5_5, x6_5, x7_5, x12_5, x13_5, x15_5, x16_5, x17_5, x21_5, x22_5, x24_5, x26_5, x30_5, x32_5, y23_5, y27_5, f0_5, f14_5, f19_5, f20_5, f25_5, f31_5, g18_5, g28_5, g29_5, y90_5, y91_5, y92_5, y93_5, y94_5, y95_5, y96_5, y97_5, y98_5, y99_5, y910_5, y911_5, y912_5, y913_5, y914_5, y915_5, y916_5, y917_5, y918_5, y919_5, y920_5, y921_5, y922_5, y923_5, y924_5, y925_5, rR25, rR31, hP1⟩ := hB
  rw [ht] at hP1
  have hPZ := dj_keep hPZ (dj_sym (rw_dj (lg' := lgR) (st' := stR) (ai' := aiR) (al' := alR) hdj)) hk1
  clear hPY hz1 hk1 hvm hFc
  subst ht
  have hPY := hP1
  clear hP1
  generalize t.heap = H at hPY hPZ hS ⊢
  have hPY : va_P (dC, dI) vwCl (rw_W o cR kR (rU (rU (rU (rU (rU (rU (rU (rU (rU (rU (rU (rU (rU (rU (rU (rU stR 3 x3_5) 4 x4_5) 5 x5_5) 6 x6_5) 7 x7_5) 12 x12_5) 13 x13_5) 15 x15_5) 16 x16_5) 17 x17_5) 21 x21_5) 22 x22_5) 24 x24_5) 26 x26_5) 30 x30_5) 32 x32_5) (rU (rU lgR 23 y23_5) 27 y27_5) (rU (rU (rU (rU (rU (rU aiR 0 f0_5) 14 f14_5) 19 f19_5) 20 f20_5) 25 f25_5) 31 f31_5) (rU (rU (rU alR 18 g18_5) 28 g28_5) 29 g29_5)) H := hPY
  have rf3a : 0 ≤ x3_5.toInt := y90_5
  have rf3b : x3_5.toInt ≤ 1 := y91_5
  have rf6a : 0 ≤ x6_5.toInt := y92_5
  have rf6b : x6_5.toInt ≤ 1 := y93_5
  have rf7a : 0 ≤ x7_5.toInt := y94_5
  have rf7b : x7_5.toInt ≤ 1 := y95_5
  have rf12a : 0 ≤ x12_5.toInt := y96_5
  have rf12b : x12_5.toInt ≤ 8 := y97_5
  have rf15a : 0 ≤ x15_5.toInt := y98_5
  have rf15b : x15_5.toInt ≤ 128 := y99_5
  have rf16a : 0 ≤ x16_5.toInt := y910_5
  have rf16b : x16_5.toInt ≤ 128 := y911_5
  have rf17a : 0 ≤ x17_5.toInt := y912_5
  have rf17b : x17_5.toInt ≤ 1 := y913_5
  have rf21a : -1 ≤ x21_5.toInt := y914_5
  have rf21b : x21_5.toInt ≤ 127 := y915_5
  have rf22a : 0 ≤ x22_5.toInt := y916_5
  have rf22b : x22_5.toInt ≤ 1000000 := y917_5
  have rf24a : 0 ≤ x24_5.toInt := y918_5
  have rf24b : x24_5.toInt ≤ 1 := y919_5
  have rf26a : 0 ≤ x26_5.toInt := y920_5
  have rf26b : x26_5.toInt ≤ 2000000 := y921_5
  have rf30a : 0 ≤ x30_5.toInt := y922_5
  have rf30b : x30_5.toInt ≤ 128 := y923_5
  have rf32a : 0 ≤ x32_5.toInt := y924_5
  have rf32b : x32_5.toInt ≤ 128 := y925_5
  have rR25 : aR f25_5 130 (0) 127 := rR25
  have rR31 : aR f31_5 128 (0) 127 := rR31
  refine lv_istore (lv' := [(6, .int r_5), (5, .int r), (4, .int i), (3, .ref oa), (2, .ref o), (1, .ref (c 100)), (0, .ref b)]) hx hb dL_law_840 hl (by decide) rfl (fun ls hl => ?_)
  refine lv_goto (tgt := 1103) hx hb dL_law_842 (by decide) ?_
  exact kk e9 st9 lg9 ai9 al9 R9 cap9 num9 f9 (rU (rU (rU (rU (rU (rU (rU (rU (rU (rU (rU (rU (rU (rU (rU (rU stR 3 x3_5) 4 x4_5) 5 x5_5) 6 x6_5) 7 x7_5) 12 x12_5) 13 x13_5) 15 x15_5) 16 x16_5) 17 x17_5) 21 x21_5) 22 x22_5) 24 x24_5) 26 x26_5) 30 x30_5) 32 x32_5) (rU (rU lgR 23 y23_5) 27 y27_5) (rU (rU (rU (rU (rU (rU aiR 0 f0_5) 14 f14_5) 19 f19_5) 20 f20_5) 25 f25_5) 31 f31_5) (rU (rU (rU alR 18 g18_5) 28 g28_5) 29 g29_5) _ locs ls K1 M1 ⟨hI9, ⟨⟨rf1a, rf1b⟩, ⟨rf2a, rf2b⟩, ⟨rf3a, rf3b⟩, ⟨rf6a, rf6b⟩, ⟨rf7a, rf7b⟩, ⟨rf9a, rf9b⟩, ⟨rf12a, rf12b⟩, ⟨rf15a, rf15b⟩, ⟨rf16a, rf16b⟩, ⟨rf17a, rf17b⟩, ⟨rf21a, rf21b⟩, ⟨rf22a, rf22b⟩, ⟨rf24a, rf24b⟩, ⟨rf26a, rf26b⟩, ⟨rf30a, rf30b⟩, ⟨rf32a, rf32b⟩, ⟨rf37a, rf37b⟩, rR8, rR25, rR31, rR35⟩, hcE, hPZ, hDZ, hPY, rw_D hDY, rw_dj hdj, hS⟩ (lv_sub hl [2, 3, 4, 5, 6] rfl) hcp9 (show (st 13).toInt ≤ (st9 13).toInt by omega) (show (st9 13).toInt ≤ (st 13).toInt + 16 by omega) (by omega) (by omega)

set_option maxHeartbeats 4000000 in
set_option maxRecDepth 100000 in
theorem lwq_16 {p : Program} {e : Env} {s : State} {m : MethodId} {below : List Frame} {meth : Method} {cM : Code} (l : Launch) (hl0 : l.stackTraces = false) {A : Nat → Prop} {dC : Nat → ClassId} {dI : Nat → Nat → Nat} {b L e0 : Nat} {xs : Nat → Int32} (kc kR : Nat → ClassId) (ko : ClassId) (oa o : Nat) (cR : Nat → Nat) (c : Nat → Nat) (st : Nat → Int32) (lg : Nat → Int64) (ai : Nat → Nat → Int32) (al : Nat → Nat → Int64) (R : va_W) (cap : Nat) (num : Nat → Int32) (fo : Nat → Int64) (stR : Nat → Int32) (lgR : Nat → Int64) (aiR : Nat → Nat → Int32) (alR : Nat → Nat → Int64) (H : Heap) (locs : List Loc) (ls : Array Slot) (i : Int32) (K0 M0 : Nat) (C0 : lwB p s m meth cM b L xs A e0) (hK : va_K (dC, dI) vwCl (cw_T kc) s) (hKo : va_K (dC, dI) vwCl [(ko, .long)] s) (hKR : va_K (dC, dI) vwCl (rw_T kR) s) (hS0 : lwS (dC, dI) A s e0 kc kR ko oa o cR c st lg ai al R cap num fo stR lgR aiR alR H locs) (hl : lv_has ls 8 [(4, .int i), (3, .ref oa), (2, .ref o), (1, .ref (c 100)), (0, .ref b)]) (hi : 1 ≤ i.toInt) (hi2 : i.toInt + 4 < (L : Int)) (hL : L ≤ 2561) (hK0 : K0 + 100 ≤ 601024) (hM0 : M0 + 1200000 ≤ 7293000) (kk : ∀ (e9 : Nat) (st9 : Nat → Int32) (lg9 : Nat → Int64) (ai9 : Nat → Nat → Int32) (al9 : Nat → Nat → Int64) (R9 : va_W) (cap9 : Nat) (num9 : Nat → Int32) (f9 : Nat → Int64) (sR9 : Nat → Int32) (lR9 : Nat → Int64) (aR9 : Nat → Nat → Int32) (bR9 : Nat → Nat → Int64) (H : Heap) (locs : List Loc) (ls : Array Slot) (K9 M9 : Nat), lwS (dC, dI) A s e0 kc kR ko oa o cR (rU c 99 e9) st9 lg9 ai9 al9 R9 cap9 num9 f9 sR9 lR9 aR9 bR9 H locs → lv_has ls 8 [(4, .int i), (3, .ref oa), (2, .ref o), (1, .ref (c 100)), (0, .ref b)] → cap ≤ cap9 → (st 13).toInt ≤ (st9 13).toInt → (st9 13).toInt ≤ (st 13).toInt + 16 → (K9 : Int) ≤ (K0 : Int) + 3 + 3 * ((st9 13).toInt - (st 13).toInt) → (M9 : Int) ≤ (M0 : Int) + 18 + 29 * ((st9 13).toInt - (st 13).toInt) + 4 * ((cap9 : Int) - (cap : Int)) → W p l e room_1 s m #[Value.ref b] below meth cM H locs K9 M9 (lw_Z below #[Value.ref b] s) (F0 m 1103 ls [])) : W p l e room_1 s m #[Value.ref b] below meth cM H locs K0 M0 (lw_Z below #[Value.ref b] s) (F0 m 845 ls []) := by
  obtain ⟨hx, hb, hr, hml, hown, hts, hX, hbl, hlocks, hA, hA9, hbA, hY⟩ := C0
  obtain ⟨hI, hJ, hcE, hPZ, hDZ, hPY, hDY, hdj, hS⟩ := hS0
  obtain ⟨⟨rf1a, rf1b⟩, ⟨rf2a, rf2b⟩, ⟨rf3a, rf3b⟩, ⟨rf6a, rf6b⟩, ⟨rf7a, rf7b⟩, ⟨rf9a, rf9b⟩, ⟨rf12a, rf12b⟩, ⟨rf15a, rf15b⟩, ⟨rf16a, rf16b⟩, ⟨rf17a, rf17b⟩, ⟨rf21a, rf21b⟩, ⟨rf22a, rf22b⟩, ⟨rf24a, rf24b⟩, ⟨rf26a, rf26b⟩, ⟨rf30a, rf30b⟩, ⟨rf32a, rf32b⟩, ⟨rf37a, rf37b⟩, rR8, rR25, rR31, rR35⟩ := hJ
  have hG := hY.1
  have hGW := hG.1
  have z_1 : (1 : Int32).toInt = 1 := by decide
  refine lv_aload_n hx hb dL_law_845 rfl (lv_at hl 3 rfl) ?_
  refine lv_aload_n hx hb dL_law_846 rfl (lv_at hl 4 rfl) ?_
  refine lv_iload hx hb dL_law_847 (lv_at hl 0 rfl) ?_
  refine lv_iconst (v := 1) hx hb dL_law_849 (by decide) ?_
  refine lv_iadd hx hb dL_law_850 ?_
  refine lv_topi (fun v_1 ev_1 => ?_)
  have rg1 := iv_rng i
  have hv_1 : v_1.toInt = i.toInt + 1 := by rw [ev_1]; exact (iv_add (by omega) (by omega)).trans (by omega)
  clear ev_1
  refine va_sld hx hb hX hbl hbA hS (iv_in (i := v_1) (by omega) (by omega)) dL_law_851 ?_
  refine lv_topi (fun v_2 ev_2 => ?_)
  clear ev_2
  refine lv_aload_n hx hb dL_law_852 rfl (lv_at hl 1 rfl) ?_
  refine W_read (fun hu1 hu2 => ?_)
  have hFc := vfree hDZ hS hA
  refine va_calli (vx_runSW (As := [.ref (c 100), .int v_2, .ref oa]) (rest := []) ⟨hx, hb, hml, hown, hts⟩ (h_L_out l hl0 dC dI c kc st lg ai al R cap num oa ko fo v_2 _ _ hI) (vx_cwSW 3 hts gL_law_L_out rfl rfl rfl (by decide +kernel) ⟨Nat.le_of_ble_eq_true rfl, Nat.le_of_ble_eq_true rfl⟩) ⟨fun a U g mk q => by obtain ⟨q0, q1, q2, qP, qK, qO, qD, qG⟩ := q; exact ⟨q0, q1, q2, qP, va_K.moved (u := U) (U := U.calling g mk a) (Vm.Alike.refl U.vm) qK, va_K.moved (u := U) (U := U.calling g mk a) (Vm.Alike.refl U.vm) qO, qD, qG.same rfl rfl⟩, fun U hU hW => ⟨rfl, by rw [hU], by rw [hU], by rw [hU]; exact hPZ, va_K.moved hW.alike hK, va_K.moved hW.alike hKo, hDZ.weaken (fun _ _ _ _ => trivial), hY.go hW hU hS hFc (fun h => ⟨rfl, hcE h⟩)⟩⟩ rfl rfl hl.1 rfl (lv_room (Nat.le_of_ble_eq_true rfl)) dL_law_853 ⟨by show K0 + 2 ≤ 601024; omega, by show M0 + 12 ≤ 7293000; omega⟩) hS (fun q _ h => hFc q h) hFc (fun r u t H1 locs ht hvm er hB hz1 hk1 hS => ?_)
  subst er
  obtain ⟨e9, st9, lg9, ai9, al9, R9, cap9, num9, f9, hI9, hc9, hcp9, hn1, hn2, hs1, hs2, hP9, hD9⟩ := hB
  have hN9 : (cap9 : Int) ≤ 10 + 2 * (st9 13).toInt := by have hI := hI9; obtain ⟨⟨hf3a, hf3b⟩, ⟨hf5a, hf5b⟩, ⟨hf6a, hf6b⟩, ⟨hf9a, hf9b⟩, ⟨hf13a, hf13b⟩, ⟨hf15a, hf15b⟩, ⟨hf17a, hf17b⟩, ⟨hf25a, hf25b⟩, ⟨hf26a, hf26b⟩, ⟨hf27a, hf27b⟩, ⟨hf28a, hf28b⟩, ⟨hf37a, hf37b⟩, hR4, hR7, hR23, hR32, hR33, hPI, hN⟩ := hI; exact hN.1
  have hb9 : (st9 13).toInt ≤ 65536 := by have hI := hI9; obtain ⟨⟨hf3a, hf3b⟩, ⟨hf5a, hf5b⟩, ⟨hf6a, hf6b⟩, ⟨hf9a, hf9b⟩, ⟨hf13a, hf13b⟩, ⟨hf15a, hf15b⟩, ⟨hf17a, hf17b⟩, ⟨hf25a, hf25b⟩, ⟨hf26a, hf26b⟩, ⟨hf27a, hf27b⟩, ⟨hf28a, hf28b⟩, ⟨hf37a, hf37b⟩, hR4, hR7, hR23, hR32, hR33, hPI, hN⟩ := hI; exact hf13b
  rw [ht] at hP9 hs1 hs2
  have hdj9 := dj_new hPY hdj hD9
  have hPY := dj_keep hPY hdj hk1
  have hdj := hdj9
  have hDZ := hD9.weaken (fun _ _ _ h => hFc _ h)
  have hPZ := hP9
  have hcE : cap9 = 0 → (rU c 99 e9) 99 = e0 := fun h => (show e9 = e0 from (hc9 h).2.trans (hcE (hc9 h).1))
  obtain ⟨K1, hK1⟩ : ∃ k9 : Nat, (k9 : Int) = (K0 : Int) + 3 + 3 * ((st9 13).toInt - (st 13).toInt) := ⟨((K0 : Int) + 3 + 3 * ((st9 13).toInt - (st 13).toInt)).toNat, by omega⟩
  obtain ⟨M1, hM1⟩ : ∃ m9 : Nat, (m9 : Int) = (M0 : Int) + 18 + 29 * ((st9 13).toInt - (st 13).toInt) + 4 * ((cap9 : Int) - (cap : Int)) := ⟨((M0 : Int) + 18 + 29 * ((st9 13).toInt - (st 13).toInt) + 4 * ((cap9 : Int) - (cap : Int))).toNat, by omega⟩
  refine W_tight (k' := K1) (m' := M1) (by omega) (by omega) ?_
  clear hz1 hk1 hvm hs1 hs2 hu1 hu2 hP9 hD9 hdj9 hFc
  subst ht
  generalize t.heap = H at hPZ hPY hS ⊢
  refine lv_topi (fun r er9 => ?_)
  clear er9
  refine lv_istore (lv' := [(5, .int r), (4, .int i), (3, .ref oa), (2, .ref o), (1, .ref (c 100)), (0, .ref b)]) hx hb dL_law_856 hl (by decide) rfl (fun ls hl => ?_)
  refine lv_aload_n hx hb dL_law_858 rfl (lv_at hl 3 rfl) ?_
  refine lv_aload_n hx hb dL_law_859 rfl (lv_at hl 5 rfl) ?_
  refine lv_iload hx hb dL_law_860 (lv_at hl 1 rfl) ?_
  refine lv_iconst (v := 1) hx hb dL_law_862 (by decide) ?_
  refine lv_iadd hx hb dL_law_863 ?_
  refine lv_topi (fun v_3 ev_3 => ?_)
  have hv_3 : v_3.toInt = i.toInt + 1 := by rw [ev_3]; exact (iv_add (by omega) (by omega)).trans (by omega)
  clear ev_3
  refine va_sld hx hb hX hbl hbA hS (iv_in (i := v_3) (by omega) (by omega)) dL_law_864 ?_
  refine lv_topi (fun v_4 ev_4 => ?_)
  clear ev_4
  have hFc := vfree (rw_D hDY : va_D A (rw_W o cR kR stR lgR aiR alR)) hS hA
  refine va_calli (va_runV (As := [.int v_4]) (rest := []) ⟨hx, hb, hml, hown, hts⟩ (v_X9_out l dC dI o cR kR stR lgR aiR alR v_4 _ (show 1 ≤ (stR 1).toInt from rf1a) (show (stR 1).toInt ≤ 65536 from rf1b) (show 0 ≤ (stR 3).toInt from rf3a) (show (stR 3).toInt ≤ 1 from rf3b) (show 0 ≤ (stR 7).toInt from rf7a) (show (stR 7).toInt ≤ 1 from rf7b) (show 0 ≤ (stR 9).toInt from rf9a) (show (stR 9).toInt ≤ 400 from rf9b) (show 0 ≤ (stR 15).toInt from rf15a) (show (stR 15).toInt ≤ 128 from rf15b) (show 0 ≤ (stR 16).toInt from rf16a) (show (stR 16).toInt ≤ 128 from rf16b) (show 0 ≤ (stR 17).toInt from rf17a) (show (stR 17).toInt ≤ 1 from rf17b) (show -1 ≤ (stR 21).toInt from rf21a) (show (stR 21).toInt ≤ 127 from rf21b) (show 0 ≤ (stR 22).toInt from rf22a) (show (stR 22).toInt ≤ 1000000 from rf22b) (show 0 ≤ (stR 24).toInt from rf24a) (show (stR 24).toInt ≤ 1 from rf24b) (show 0 ≤ (stR 26).toInt from rf26a) (show (stR 26).toInt ≤ 2000000 from rf26b) (show aR (aiR 8) 400 (0) 255 from rR8) (show aR (aiR 25) 130 (0) 127 from rR25)) (cwV 1 hts gL_law_X9_out rfl rfl rfl (by decide +kernel) ⟨Nat.le_of_ble_eq_true rfl, Nat.le_of_ble_eq_true rfl⟩) ⟨fun a U g mk q => by obtain ⟨q0, q1, qP, qK, qD⟩ := q; exact ⟨q0, q1, qP, va_K.moved (u := U) (U := U.calling g mk a) (Vm.Alike.refl U.vm) qK, qD⟩, va_recv hKR hPY (ci := 11) (q := (RX9, TX9, 38)) rfl (q0 := 0) rfl, fun U hU hW => ⟨rfl, by rw [hU], by rw [hU]; exact hPY, va_K.moved hW.alike hKR, (rw_D hDY).weaken (fun _ _ _ _ => trivial)⟩⟩ rfl rfl hl.1 rfl (lv_room (Nat.le_of_ble_eq_true rfl)) dL_law_865 ⟨by show K1 + 0 ≤ 601024; omega, by show M1 + 0 ≤ 7293000; omega⟩) hS (fun q _ h => hFc q h) hFc (fun r_5 u t H1 locs ht hvm er_5 hB hz1 hk1 hS => ?_)
  subst er_5
  obtain ⟨x9_5, x13_5, x16_5, x17_5, x21_5, x22_5, x24_5, x26_5, y23_5, y27_5, f8_5, f19_5, f20_5, f25_5, g18_5, g28_5, y90_5, y91_5, y92_5, y93_5, y94_5, y95_5, y96_5, y97_5, y98_5, y99_5, y910_5, y911_5, y912_5, y913_5, rR8, rR25, hP1⟩ := hB
  rw [ht] at hP1
  have hPZ := dj_keep hPZ (dj_sym (rw_dj (lg' := lgR) (st' := stR) (ai' := aiR) (al' := alR) hdj)) hk1
  clear hPY hz1 hk1 hvm hFc
  subst ht
  have hPY := hP1
  clear hP1
  generalize t.heap = H at hPY hPZ hS ⊢
  have hPY : va_P (dC, dI) vwCl (rw_W o cR kR (rU (rU (rU (rU (rU (rU (rU (rU stR 9 x9_5) 13 x13_5) 16 x16_5) 17 x17_5) 21 x21_5) 22 x22_5) 24 x24_5) 26 x26_5) (rU (rU lgR 23 y23_5) 27 y27_5) (rU (rU (rU (rU aiR 8 f8_5) 19 f19_5) 20 f20_5) 25 f25_5) (rU (rU alR 18 g18_5) 28 g28_5)) H := hPY
  have rf9a : 0 ≤ x9_5.toInt := y90_5
  have rf9b : x9_5.toInt ≤ 400 := y91_5
  have rf16a : 0 ≤ x16_5.toInt := y92_5
  have rf16b : x16_5.toInt ≤ 128 := y93_5
  have rf17a : 0 ≤ x17_5.toInt := y94_5
  have rf17b : x17_5.toInt ≤ 1 := y95_5
  have rf21a : -1 ≤ x21_5.toInt := y96_5
  have rf21b : x21_5.toInt ≤ 127 := y97_5
  have rf22a : 0 ≤ x22_5.toInt := y98_5
  have rf22b : x22_5.toInt ≤ 1000000 := y99_5
  have rf24a : 0 ≤ x24_5.toInt := y910_5
  have rf24b : x24_5.toInt ≤ 1 := y911_5
  have rf26a : 0 ≤ x26_5.toInt := y912_5
  have rf26b : x26_5.toInt ≤ 2000000 := y913_5
  have rR8 : aR f8_5 400 (0) 255 := rR8
  have rR25 : aR f25_5 130 (0) 127 := rR25
  refine lv_istore (lv' := [(6, .int r_5), (5, .int r), (4, .int i), (3, .ref oa), (2, .ref o), (1, .ref (c 100)), (0, .ref b)]) hx hb dL_law_868 hl (by decide) rfl (fun ls hl => ?_)
  refine lv_goto (tgt := 1103) hx hb dL_law_870 (by decide) ?_
  exact kk e9 st9 lg9 ai9 al9 R9 cap9 num9 f9 (rU (rU (rU (rU (rU (rU (rU (rU stR 9 x9_5) 13 x13_5) 16 x16_5) 17 x17_5) 21 x21_5) 22 x22_5) 24 x24_5) 26 x26_5) (rU (rU lgR 23 y23_5) 27 y27_5) (rU (rU (rU (rU aiR 8 f8_5) 19 f19_5) 20 f20_5) 25 f25_5) (rU (rU alR 18 g18_5) 28 g28_5) _ locs ls K1 M1 ⟨hI9, ⟨⟨rf1a, rf1b⟩, ⟨rf2a, rf2b⟩, ⟨rf3a, rf3b⟩, ⟨rf6a, rf6b⟩, ⟨rf7a, rf7b⟩, ⟨rf9a, rf9b⟩, ⟨rf12a, rf12b⟩, ⟨rf15a, rf15b⟩, ⟨rf16a, rf16b⟩, ⟨rf17a, rf17b⟩, ⟨rf21a, rf21b⟩, ⟨rf22a, rf22b⟩, ⟨rf24a, rf24b⟩, ⟨rf26a, rf26b⟩, ⟨rf30a, rf30b⟩, ⟨rf32a, rf32b⟩, ⟨rf37a, rf37b⟩, rR8, rR25, rR31, rR35⟩, hcE, hPZ, hDZ, hPY, rw_D hDY, rw_dj hdj, hS⟩ (lv_sub hl [2, 3, 4, 5, 6] rfl) hcp9 (show (st 13).toInt ≤ (st9 13).toInt by omega) (show (st9 13).toInt ≤ (st 13).toInt + 16 by omega) (by omega) (by omega)

set_option maxHeartbeats 4000000 in
set_option maxRecDepth 100000 in
theorem lwq_17 {p : Program} {e : Env} {s : State} {m : MethodId} {below : List Frame} {meth : Method} {cM : Code} (l : Launch) (hl0 : l.stackTraces = false) {A : Nat → Prop} {dC : Nat → ClassId} {dI : Nat → Nat → Nat} {b L e0 : Nat} {xs : Nat → Int32} (kc kR : Nat → ClassId) (ko : ClassId) (oa o : Nat) (cR : Nat → Nat) (c : Nat → Nat) (st : Nat → Int32) (lg : Nat → Int64) (ai : Nat → Nat → Int32) (al : Nat → Nat → Int64) (R : va_W) (cap : Nat) (num : Nat → Int32) (fo : Nat → Int64) (stR : Nat → Int32) (lgR : Nat → Int64) (aiR : Nat → Nat → Int32) (alR : Nat → Nat → Int64) (H : Heap) (locs : List Loc) (ls : Array Slot) (i : Int32) (K0 M0 : Nat) (C0 : lwB p s m meth cM b L xs A e0) (hK : va_K (dC, dI) vwCl (cw_T kc) s) (hKo : va_K (dC, dI) vwCl [(ko, .long)] s) (hKR : va_K (dC, dI) vwCl (rw_T kR) s) (hS0 : lwS (dC, dI) A s e0 kc kR ko oa o cR c st lg ai al R cap num fo stR lgR aiR alR H locs) (hl : lv_has ls 8 [(4, .int i), (3, .ref oa), (2, .ref o), (1, .ref (c 100)), (0, .ref b)]) (hi : 1 ≤ i.toInt) (hi2 : i.toInt + 4 < (L : Int)) (hL : L ≤ 2561) (hK0 : K0 + 100 ≤ 601024) (hM0 : M0 + 1200000 ≤ 7293000) (kk : ∀ (e9 : Nat) (st9 : Nat → Int32) (lg9 : Nat → Int64) (ai9 : Nat → Nat → Int32) (al9 : Nat → Nat → Int64) (R9 : va_W) (cap9 : Nat) (num9 : Nat → Int32) (f9 : Nat → Int64) (sR9 : Nat → Int32) (lR9 : Nat → Int64) (aR9 : Nat → Nat → Int32) (bR9 : Nat → Nat → Int64) (H : Heap) (locs : List Loc) (ls : Array Slot) (K9 M9 : Nat), lwS (dC, dI) A s e0 kc kR ko oa o cR (rU c 99 e9) st9 lg9 ai9 al9 R9 cap9 num9 f9 sR9 lR9 aR9 bR9 H locs → lv_has ls 8 [(4, .int i), (3, .ref oa), (2, .ref o), (1, .ref (c 100)), (0, .ref b)] → cap ≤ cap9 → (st 13).toInt ≤ (st9 13).toInt → (st9 13).toInt ≤ (st 13).toInt + 16 → (K9 : Int) ≤ (K0 : Int) + 3 + 3 * ((st9 13).toInt - (st 13).toInt) → (M9 : Int) ≤ (M0 : Int) + 18 + 29 * ((st9 13).toInt - (st 13).toInt) + 4 * ((cap9 : Int) - (cap : Int)) → W p l e room_1 s m #[Value.ref b] below meth cM H locs K9 M9 (lw_Z below #[Value.ref b] s) (F0 m 1103 ls [])) : W p l e room_1 s m #[Value.ref b] below meth cM H locs K0 M0 (lw_Z below #[Value.ref b] s) (F0 m 873 ls []) := by
  obtain ⟨hx, hb, hr, hml, hown, hts, hX, hbl, hlocks, hA, hA9, hbA, hY⟩ := C0
  obtain ⟨hI, hJ, hcE, hPZ, hDZ, hPY, hDY, hdj, hS⟩ := hS0
  obtain ⟨⟨rf1a, rf1b⟩, ⟨rf2a, rf2b⟩, ⟨rf3a, rf3b⟩, ⟨rf6a, rf6b⟩, ⟨rf7a, rf7b⟩, ⟨rf9a, rf9b⟩, ⟨rf12a, rf12b⟩, ⟨rf15a, rf15b⟩, ⟨rf16a, rf16b⟩, ⟨rf17a, rf17b⟩, ⟨rf21a, rf21b⟩, ⟨rf22a, rf22b⟩, ⟨rf24a, rf24b⟩, ⟨rf26a, rf26b⟩, ⟨rf30a, rf30b⟩, ⟨rf32a, rf32b⟩, ⟨rf37a, rf37b⟩, rR8, rR25, rR31, rR35⟩ := hJ
  have hG := hY.1
  have hGW := hG.1
  refine lv_aload_n hx hb dL_law_873 rfl (lv_at hl 3 rfl) ?_
  refine lv_aload_n hx hb dL_law_874 rfl (lv_at hl 1 rfl) ?_
  refine W_read (fun hu1 hu2 => ?_)
  have hFc := vfree hDZ hS hA
  refine va_calli (vx_runSW (As := [.ref (c 100), .ref oa]) (rest := []) ⟨hx, hb, hml, hown, hts⟩ (h_L_in l hl0 dC dI c kc st lg ai al R cap num oa ko fo  _ _ hI) (vx_cwSW 2 hts gL_law_L_in rfl rfl rfl (by decide +kernel) ⟨Nat.le_of_ble_eq_true rfl, Nat.le_of_ble_eq_true rfl⟩) ⟨fun a U g mk q => by obtain ⟨q0, q1, q2, qP, qK, qO, qD, qG⟩ := q; exact ⟨q0, q1, q2, qP, va_K.moved (u := U) (U := U.calling g mk a) (Vm.Alike.refl U.vm) qK, va_K.moved (u := U) (U := U.calling g mk a) (Vm.Alike.refl U.vm) qO, qD, qG.same rfl rfl⟩, fun U hU hW => ⟨rfl, by rw [hU], by rw [hU], by rw [hU]; exact hPZ, va_K.moved hW.alike hK, va_K.moved hW.alike hKo, hDZ.weaken (fun _ _ _ _ => trivial), hY.go hW hU hS hFc (fun h => ⟨rfl, hcE h⟩)⟩⟩ rfl rfl hl.1 rfl (lv_room (Nat.le_of_ble_eq_true rfl)) dL_law_875 ⟨by show K0 + 62 ≤ 601024; omega, by show M0 + 1170100 ≤ 7293000; omega⟩) hS (fun q _ h => hFc q h) hFc (fun r u t H1 locs ht hvm er hB hz1 hk1 hS => ?_)
  subst er
  obtain ⟨e9, st9, lg9, ai9, al9, R9, cap9, num9, f9, hI9, hc9, hcp9, hn1, hn2, hs1, hs2, hP9, hD9⟩ := hB
  have hN9 : (cap9 : Int) ≤ 10 + 2 * (st9 13).toInt := by have hI := hI9; obtain ⟨⟨hf3a, hf3b⟩, ⟨hf5a, hf5b⟩, ⟨hf6a, hf6b⟩, ⟨hf9a, hf9b⟩, ⟨hf13a, hf13b⟩, ⟨hf15a, hf15b⟩, ⟨hf17a, hf17b⟩, ⟨hf25a, hf25b⟩, ⟨hf26a, hf26b⟩, ⟨hf27a, hf27b⟩, ⟨hf28a, hf28b⟩, ⟨hf37a, hf37b⟩, hR4, hR7, hR23, hR32, hR33, hPI, hN⟩ := hI; exact hN.1
  have hb9 : (st9 13).toInt ≤ 65536 := by have hI := hI9; obtain ⟨⟨hf3a, hf3b⟩, ⟨hf5a, hf5b⟩, ⟨hf6a, hf6b⟩, ⟨hf9a, hf9b⟩, ⟨hf13a, hf13b⟩, ⟨hf15a, hf15b⟩, ⟨hf17a, hf17b⟩, ⟨hf25a, hf25b⟩, ⟨hf26a, hf26b⟩, ⟨hf27a, hf27b⟩, ⟨hf28a, hf28b⟩, ⟨hf37a, hf37b⟩, hR4, hR7, hR23, hR32, hR33, hPI, hN⟩ := hI; exact hf13b
  rw [ht] at hP9 hs1 hs2
  have hdj9 := dj_new hPY hdj hD9
  have hPY := dj_keep hPY hdj hk1
  have hdj := hdj9
  have hDZ := hD9.weaken (fun _ _ _ h => hFc _ h)
  have hPZ := hP9
  have hcE : cap9 = 0 → (rU c 99 e9) 99 = e0 := fun h => (show e9 = e0 from (hc9 h).2.trans (hcE (hc9 h).1))
  obtain ⟨K1, hK1⟩ : ∃ k9 : Nat, (k9 : Int) = (K0 : Int) + 3 + 3 * ((st9 13).toInt - (st 13).toInt) := ⟨((K0 : Int) + 3 + 3 * ((st9 13).toInt - (st 13).toInt)).toNat, by omega⟩
  obtain ⟨M1, hM1⟩ : ∃ m9 : Nat, (m9 : Int) = (M0 : Int) + 18 + 29 * ((st9 13).toInt - (st 13).toInt) + 4 * ((cap9 : Int) - (cap : Int)) := ⟨((M0 : Int) + 18 + 29 * ((st9 13).toInt - (st 13).toInt) + 4 * ((cap9 : Int) - (cap : Int))).toNat, by omega⟩
  refine W_tight (k' := K1) (m' := M1) (by omega) (by omega) ?_
  clear hz1 hk1 hvm hs1 hs2 hu1 hu2 hP9 hD9 hdj9 hFc
  subst ht
  generalize t.heap = H at hPZ hPY hS ⊢
  refine lv_topi (fun r er9 => ?_)
  clear er9
  refine lv_istore (lv' := [(5, .int r), (4, .int i), (3, .ref oa), (2, .ref o), (1, .ref (c 100)), (0, .ref b)]) hx hb dL_law_878 hl (by decide) rfl (fun ls hl => ?_)
  refine lv_aload_n hx hb dL_law_880 rfl (lv_at hl 3 rfl) ?_
  have hFc := vfree (rw_D hDY : va_D A (rw_W o cR kR stR lgR aiR alR)) hS hA
  refine va_calli (va_runV (As := []) (rest := []) ⟨hx, hb, hml, hown, hts⟩ (v_X9_in l dC dI o cR kR stR lgR aiR alR  _ (show 1 ≤ (stR 1).toInt from rf1a) (show (stR 1).toInt ≤ 65536 from rf1b) (show 0 ≤ (stR 3).toInt from rf3a) (show (stR 3).toInt ≤ 1 from rf3b) (show 0 ≤ (stR 6).toInt from rf6a) (show (stR 6).toInt ≤ 1 from rf6b) (show 0 ≤ (stR 7).toInt from rf7a) (show (stR 7).toInt ≤ 1 from rf7b) (show 0 ≤ (stR 9).toInt from rf9a) (show (stR 9).toInt ≤ 400 from rf9b) (show 0 ≤ (stR 12).toInt from rf12a) (show (stR 12).toInt ≤ 8 from rf12b) (show 0 ≤ (stR 15).toInt from rf15a) (show (stR 15).toInt ≤ 128 from rf15b) (show 0 ≤ (stR 37).toInt from rf37a) (show (stR 37).toInt ≤ 255 from rf37b) (show aR (aiR 8) 400 (0) 255 from rR8) (show aR (aiR 35) 16 (0) 255 from rR35)) (cwV 0 hts gL_law_X9_in rfl rfl rfl (by decide +kernel) ⟨Nat.le_of_ble_eq_true rfl, Nat.le_of_ble_eq_true rfl⟩) ⟨fun a U g mk q => by obtain ⟨q0, q1, qP, qK, qD⟩ := q; exact ⟨q0, q1, qP, va_K.moved (u := U) (U := U.calling g mk a) (Vm.Alike.refl U.vm) qK, qD⟩, va_recv hKR hPY (ci := 11) (q := (RX9, TX9, 38)) rfl (q0 := 0) rfl, fun U hU hW => ⟨rfl, by rw [hU], by rw [hU]; exact hPY, va_K.moved hW.alike hKR, (rw_D hDY).weaken (fun _ _ _ _ => trivial)⟩⟩ rfl rfl hl.1 rfl (lv_room (Nat.le_of_ble_eq_true rfl)) dL_law_881 ⟨by show K1 + 0 ≤ 601024; omega, by show M1 + 0 ≤ 7293000; omega⟩) hS (fun q _ h => hFc q h) hFc (fun r_1 u t H1 locs ht hvm er_1 hB hz1 hk1 hS => ?_)
  subst er_1
  obtain ⟨x3_1, x4_1, x5_1, x6_1, x9_1, x12_1, x13_1, x15_1, x37_1, f0_1, f14_1, f33_1, f34_1, f35_1, g36_1, y90_1, y91_1, y92_1, y93_1, y94_1, y95_1, y96_1, y97_1, y98_1, y99_1, y910_1, y911_1, rR35, hP1⟩ := hB
  rw [ht] at hP1
  have hPZ := dj_keep hPZ (dj_sym (rw_dj (lg' := lgR) (st' := stR) (ai' := aiR) (al' := alR) hdj)) hk1
  clear hPY hz1 hk1 hvm hFc
  subst ht
  have hPY := hP1
  clear hP1
  generalize t.heap = H at hPY hPZ hS ⊢
  have hPY : va_P (dC, dI) vwCl (rw_W o cR kR (rU (rU (rU (rU (rU (rU (rU (rU (rU stR 3 x3_1) 4 x4_1) 5 x5_1) 6 x6_1) 9 x9_1) 12 x12_1) 13 x13_1) 15 x15_1) 37 x37_1) lgR (rU (rU (rU (rU (rU aiR 0 f0_1) 14 f14_1) 33 f33_1) 34 f34_1) 35 f35_1) (rU alR 36 g36_1)) H := hPY
  have rf3a : 0 ≤ x3_1.toInt := y90_1
  have rf3b : x3_1.toInt ≤ 1 := y91_1
  have rf6a : 0 ≤ x6_1.toInt := y92_1
  have rf6b : x6_1.toInt ≤ 1 := y93_1
  have rf9a : 0 ≤ x9_1.toInt := y94_1
  have rf9b : x9_1.toInt ≤ 400 := y95_1
  have rf12a : 0 ≤ x12_1.toInt := y96_1
  have rf12b : x12_1.toInt ≤ 8 := y97_1
  have rf15a : 0 ≤ x15_1.toInt := y98_1
  have rf15b : x15_1.toInt ≤ 128 := y99_1
  have rf37a : 0 ≤ x37_1.toInt := y910_1
  have rf37b : x37_1.toInt ≤ 255 := y911_1
  have rR35 : aR f35_1 16 (0) 255 := rR35
  refine lv_istore (lv' := [(6, .int r_1), (5, .int r), (4, .int i), (3, .ref oa), (2, .ref o), (1, .ref (c 100)), (0, .ref b)]) hx hb dL_law_884 hl (by decide) rfl (fun ls hl => ?_)
  refine lv_goto (tgt := 1103) hx hb dL_law_886 (by decide) ?_
  exact kk e9 st9 lg9 ai9 al9 R9 cap9 num9 f9 (rU (rU (rU (rU (rU (rU (rU (rU (rU stR 3 x3_1) 4 x4_1) 5 x5_1) 6 x6_1) 9 x9_1) 12 x12_1) 13 x13_1) 15 x15_1) 37 x37_1) lgR (rU (rU (rU (rU (rU aiR 0 f0_1) 14 f14_1) 33 f33_1) 34 f34_1) 35 f35_1) (rU alR 36 g36_1) _ locs ls K1 M1 ⟨hI9, ⟨⟨rf1a, rf1b⟩, ⟨rf2a, rf2b⟩, ⟨rf3a, rf3b⟩, ⟨rf6a, rf6b⟩, ⟨rf7a, rf7b⟩, ⟨rf9a, rf9b⟩, ⟨rf12a, rf12b⟩, ⟨rf15a, rf15b⟩, ⟨rf16a, rf16b⟩, ⟨rf17a, rf17b⟩, ⟨rf21a, rf21b⟩, ⟨rf22a, rf22b⟩, ⟨rf24a, rf24b⟩, ⟨rf26a, rf26b⟩, ⟨rf30a, rf30b⟩, ⟨rf32a, rf32b⟩, ⟨rf37a, rf37b⟩, rR8, rR25, rR31, rR35⟩, hcE, hPZ, hDZ, hPY, rw_D hDY, rw_dj hdj, hS⟩ (lv_sub hl [2, 3, 4, 5, 6] rfl) hcp9 (show (st 13).toInt ≤ (st9 13).toInt by omega) (show (st9 13).toInt ≤ (st 13).toInt + 16 by omega) (by omega) (by omega)

set_option maxHeartbeats 4000000 in
set_option maxRecDepth 100000 in
theorem lwq_18 {p : Program} {e : Env} {s : State} {m : MethodId} {below : List Frame} {meth : Method} {cM : Code} (l : Launch) (hl0 : l.stackTraces = false) {A : Nat → Prop} {dC : Nat → ClassId} {dI : Nat → Nat → Nat} {b L e0 : Nat} {xs : Nat → Int32} (kc kR : Nat → ClassId) (ko : ClassId) (oa o : Nat) (cR : Nat → Nat) (c : Nat → Nat) (st : Nat → Int32) (lg : Nat → Int64) (ai : Nat → Nat → Int32) (al : Nat → Nat → Int64) (R : va_W) (cap : Nat) (num : Nat → Int32) (fo : Nat → Int64) (stR : Nat → Int32) (lgR : Nat → Int64) (aiR : Nat → Nat → Int32) (alR : Nat → Nat → Int64) (H : Heap) (locs : List Loc) (ls : Array Slot) (i : Int32) (K0 M0 : Nat) (C0 : lwB p s m meth cM b L xs A e0) (hK : va_K (dC, dI) vwCl (cw_T kc) s) (hKo : va_K (dC, dI) vwCl [(ko, .long)] s) (hKR : va_K (dC, dI) vwCl (rw_T kR) s) (hS0 : lwS (dC, dI) A s e0 kc kR ko oa o cR c st lg ai al R cap num fo stR lgR aiR alR H locs) (hl : lv_has ls 8 [(4, .int i), (3, .ref oa), (2, .ref o), (1, .ref (c 100)), (0, .ref b)]) (hi : 1 ≤ i.toInt) (hi2 : i.toInt + 4 < (L : Int)) (hL : L ≤ 2561) (hK0 : K0 + 100 ≤ 601024) (hM0 : M0 + 1200000 ≤ 7293000) (kk : ∀ (e9 : Nat) (st9 : Nat → Int32) (lg9 : Nat → Int64) (ai9 : Nat → Nat → Int32) (al9 : Nat → Nat → Int64) (R9 : va_W) (cap9 : Nat) (num9 : Nat → Int32) (f9 : Nat → Int64) (sR9 : Nat → Int32) (lR9 : Nat → Int64) (aR9 : Nat → Nat → Int32) (bR9 : Nat → Nat → Int64) (H : Heap) (locs : List Loc) (ls : Array Slot) (K9 M9 : Nat), lwS (dC, dI) A s e0 kc kR ko oa o cR (rU c 99 e9) st9 lg9 ai9 al9 R9 cap9 num9 f9 sR9 lR9 aR9 bR9 H locs → lv_has ls 8 [(4, .int i), (3, .ref oa), (2, .ref o), (1, .ref (c 100)), (0, .ref b)] → cap ≤ cap9 → (st 13).toInt ≤ (st9 13).toInt → (st9 13).toInt ≤ (st 13).toInt + 16 → (K9 : Int) ≤ (K0 : Int) + 3 + 3 * ((st9 13).toInt - (st 13).toInt) → (M9 : Int) ≤ (M0 : Int) + 18 + 29 * ((st9 13).toInt - (st 13).toInt) + 4 * ((cap9 : Int) - (cap : Int)) → W p l e room_1 s m #[Value.ref b] below meth cM H locs K9 M9 (lw_Z below #[Value.ref b] s) (F0 m 1103 ls [])) : W p l e room_1 s m #[Value.ref b] below meth cM H locs K0 M0 (lw_Z below #[Value.ref b] s) (F0 m 889 ls []) := by
  obtain ⟨hx, hb, hr, hml, hown, hts, hX, hbl, hlocks, hA, hA9, hbA, hY⟩ := C0
  obtain ⟨hI, hJ, hcE, hPZ, hDZ, hPY, hDY, hdj, hS⟩ := hS0
  obtain ⟨⟨rf1a, rf1b⟩, ⟨rf2a, rf2b⟩, ⟨rf3a, rf3b⟩, ⟨rf6a, rf6b⟩, ⟨rf7a, rf7b⟩, ⟨rf9a, rf9b⟩, ⟨rf12a, rf12b⟩, ⟨rf15a, rf15b⟩, ⟨rf16a, rf16b⟩, ⟨rf17a, rf17b⟩, ⟨rf21a, rf21b⟩, ⟨rf22a, rf22b⟩, ⟨rf24a, rf24b⟩, ⟨rf26a, rf26b⟩, ⟨rf30a, rf30b⟩, ⟨rf32a, rf32b⟩, ⟨rf37a, rf37b⟩, rR8, rR25, rR31, rR35⟩ := hJ
  have hG := hY.1
  have hGW := hG.1
  have z_0 : (0 : Int32).toInt = 0 := by decide
  have z_1 : (1 : Int32).toInt = 1 := by decide
  refine lv_aload_n hx hb dL_law_889 rfl (lv_at hl 3 rfl) ?_
  refine lv_aload_n hx hb dL_law_890 rfl (lv_at hl 4 rfl) ?_
  refine lv_iload hx hb dL_law_891 (lv_at hl 0 rfl) ?_
  refine lv_iconst (v := 1) hx hb dL_law_893 (by decide) ?_
  refine lv_iadd hx hb dL_law_894 ?_
  refine lv_topi (fun v_1 ev_1 => ?_)
  have rg1 := iv_rng i
  have hv_1 : v_1.toInt = i.toInt + 1 := by rw [ev_1]; exact (iv_add (by omega) (by omega)).trans (by omega)
  clear ev_1
  refine va_sld hx hb hX hbl hbA hS (iv_in (i := v_1) (by omega) (by omega)) dL_law_895 ?_
  refine lv_topi (fun v_2 ev_2 => ?_)
  rcases (show (-1 ≤ v_2.toInt ∧ v_2.toInt ≤ 5000) ∨ (v_2.toInt < -1 ∨ 5000 < v_2.toInt) by omega) with hcr | hcr
  · skip
    refine W_read (fun hu1 hu2 => ?_)
    have hFc := vfree hDZ hS hA
    refine va_calli (vx_runSW (As := [.ref (c 100), .int v_2]) (rest := []) ⟨hx, hb, hml, hown, hts⟩ (h_L_cutA l hl0 dC dI c kc st lg ai al R cap num oa ko fo v_2 _ _ hI (by omega) (by omega)) (vx_cwSW 2 hts gL_law_L_cut rfl rfl rfl (by decide +kernel) ⟨Nat.le_of_ble_eq_true rfl, Nat.le_of_ble_eq_true rfl⟩) ⟨fun a U g mk q => by obtain ⟨q0, q1, q2, qP, qK, qO, qD, qG⟩ := q; exact ⟨q0, q1, q2, qP, va_K.moved (u := U) (U := U.calling g mk a) (Vm.Alike.refl U.vm) qK, va_K.moved (u := U) (U := U.calling g mk a) (Vm.Alike.refl U.vm) qO, qD, qG.same rfl rfl⟩, fun U hU hW => ⟨rfl, by rw [hU], by rw [hU], by rw [hU]; exact hPZ, va_K.moved hW.alike hK, va_K.moved hW.alike hKo, hDZ.weaken (fun _ _ _ _ => trivial), hY.go hW hU hS hFc (fun h => ⟨rfl, hcE h⟩)⟩⟩ rfl rfl hl.1 rfl (lv_room (Nat.le_of_ble_eq_true rfl)) dL_law_896 ⟨by show K0 + 0 ≤ 601024; omega, by show M0 + 0 ≤ 7293000; omega⟩) hS (fun q _ h => hFc q h) hFc (fun r u t H1 locs ht hvm er hB hz1 hk1 hS => ?_)
    subst er
    obtain ⟨hu, e9, st9, lg9, ai9, al9, R9, cap9, num9, f9, hI9, hc9, hcp9, hn1, hn2, hs1, hs2, hP9, hD9⟩ := hB
    have hN9 : (cap9 : Int) ≤ 10 + 2 * (st9 13).toInt := by have hI := hI9; obtain ⟨⟨hf3a, hf3b⟩, ⟨hf5a, hf5b⟩, ⟨hf6a, hf6b⟩, ⟨hf9a, hf9b⟩, ⟨hf13a, hf13b⟩, ⟨hf15a, hf15b⟩, ⟨hf17a, hf17b⟩, ⟨hf25a, hf25b⟩, ⟨hf26a, hf26b⟩, ⟨hf27a, hf27b⟩, ⟨hf28a, hf28b⟩, ⟨hf37a, hf37b⟩, hR4, hR7, hR23, hR32, hR33, hPI, hN⟩ := hI; exact hN.1
    have hb9 : (st9 13).toInt ≤ 65536 := by have hI := hI9; obtain ⟨⟨hf3a, hf3b⟩, ⟨hf5a, hf5b⟩, ⟨hf6a, hf6b⟩, ⟨hf9a, hf9b⟩, ⟨hf13a, hf13b⟩, ⟨hf15a, hf15b⟩, ⟨hf17a, hf17b⟩, ⟨hf25a, hf25b⟩, ⟨hf26a, hf26b⟩, ⟨hf27a, hf27b⟩, ⟨hf28a, hf28b⟩, ⟨hf37a, hf37b⟩, hR4, hR7, hR23, hR32, hR33, hPI, hN⟩ := hI; exact hf13b
    rw [ht] at hP9 hs1 hs2
    have hdj9 := dj_new hPY hdj hD9
    have hPY := dj_keep hPY hdj hk1
    have hdj := hdj9
    have hDZ := hD9.weaken (fun _ _ _ h => hFc _ h)
    have hPZ := hP9
    have hcE : cap9 = 0 → (rU c 99 e9) 99 = e0 := fun h => (show e9 = e0 from (hc9 h).2.trans (hcE (hc9 h).1))
    obtain ⟨K1, hK1⟩ : ∃ k9 : Nat, (k9 : Int) = (K0 : Int) + 3 + 3 * ((st9 13).toInt - (st 13).toInt) := ⟨((K0 : Int) + 3 + 3 * ((st9 13).toInt - (st 13).toInt)).toNat, by omega⟩
    obtain ⟨M1, hM1⟩ : ∃ m9 : Nat, (m9 : Int) = (M0 : Int) + 18 + 29 * ((st9 13).toInt - (st 13).toInt) + 4 * ((cap9 : Int) - (cap : Int)) := ⟨((M0 : Int) + 18 + 29 * ((st9 13).toInt - (st 13).toInt) + 4 * ((cap9 : Int) - (cap : Int))).toNat, by omega⟩
    refine W_tight (k' := K1) (m' := M1) (by omega) (by omega) ?_
    clear hz1 hk1 hvm hs1 hs2 hu1 hu2 hP9 hD9 hdj9 hFc
    subst ht
    generalize t.heap = H at hPZ hPY hS ⊢
    subst hu
    refine lv_istore (lv' := [(5, .int (0 : Int32)), (4, .int i), (3, .ref oa), (2, .ref o), (1, .ref (c 100)), (0, .ref b)]) hx hb dL_law_899 hl (by decide) rfl (fun ls hl => ?_)
    refine lv_aload_n hx hb dL_law_901 rfl (lv_at hl 3 rfl) ?_
    refine lv_aload_n hx hb dL_law_902 rfl (lv_at hl 5 rfl) ?_
    refine lv_iload hx hb dL_law_903 (lv_at hl 1 rfl) ?_
    refine lv_iconst (v := 1) hx hb dL_law_905 (by decide) ?_
    refine lv_iadd hx hb dL_law_906 ?_
    refine lv_topi (fun v_3 ev_3 => ?_)
    have hv_3 : v_3.toInt = i.toInt + 1 := by rw [ev_3]; exact (iv_add (by omega) (by omega)).trans (by omega)
    clear ev_3
    refine va_sld hx hb hX hbl hbA hS (iv_in (i := v_3) (by omega) (by omega)) dL_law_907 ?_
    refine lv_topi (fun v_4 ev_4 => ?_)
    have hhv_4 : v_4.toInt = v_2.toInt := by rw [ev_4, ev_2, show v_3 = v_1 from Int32.toInt_inj.mp (by omega)]
    have hFc := vfree (rw_D hDY : va_D A (rw_W o cR kR stR lgR aiR alR)) hS hA
    refine va_callv (va_runV (As := [.int v_4]) (rest := []) ⟨hx, hb, hml, hown, hts⟩ (v_X9_cut l dC dI o cR kR stR lgR aiR alR v_4 _ ) (cwV 1 hts gL_law_X9_cut rfl rfl rfl (by decide +kernel) ⟨Nat.le_of_ble_eq_true rfl, Nat.le_of_ble_eq_true rfl⟩) ⟨fun a U g mk q => by obtain ⟨q0, q1, qP, qK, qD⟩ := q; exact ⟨q0, q1, qP, va_K.moved (u := U) (U := U.calling g mk a) (Vm.Alike.refl U.vm) qK, qD⟩, va_recv hKR hPY (ci := 11) (q := (RX9, TX9, 38)) rfl (q0 := 0) rfl, fun U hU hW => ⟨rfl, by rw [hU], by rw [hU]; exact hPY, va_K.moved hW.alike hKR, (rw_D hDY).weaken (fun _ _ _ _ => trivial)⟩⟩ rfl rfl hl.1 rfl (lv_room (Nat.le_of_ble_eq_true rfl)) dL_law_908 ⟨by show K1 + 0 ≤ 601024; omega, by show M1 + 0 ≤ 7293000; omega⟩) hS (fun q _ h => hFc q h) hFc (fun u t H1 locs ht hvm er_5 hB hz1 hk1 hS => ?_)
    obtain ⟨x5_5, x13_5, y90_5, y91_5, hP1⟩ := hB
    rw [ht] at hP1
    have hPZ := dj_keep hPZ (dj_sym (rw_dj (lg' := lgR) (st' := stR) (ai' := aiR) (al' := alR) hdj)) hk1
    clear hPY hz1 hk1 hvm hFc
    subst ht
    have hPY := hP1
    clear hP1
    generalize t.heap = H at hPY hPZ hS ⊢
    have hPY : va_P (dC, dI) vwCl (rw_W o cR kR (rU (rU stR 5 x5_5) 13 x13_5) lgR aiR alR) H := hPY
    have y90_5 : ((-1 ≤ v_4.toInt ∧ v_4.toInt ≤ 5000) → x13_5.toInt = 0) := y90_5
    have y91_5 : ((v_4.toInt < -1 ∨ 5000 < v_4.toInt) → x13_5.toInt = 1) := y91_5
    refine lv_aload_n hx hb dL_law_911 rfl (lv_at hl 3 rfl) ?_
    refine vp_callSi (va_Run.run (va_runV (As := []) (rest := []) ⟨hx, hb, hml, hown, hts⟩ (v_X9_thrownE l dC dI o cR kR (rU (rU stR 5 x5_5) 13 x13_5) lgR aiR alR  ) (cwV 0 hts gL_law_X9_thrown rfl rfl rfl (by decide +kernel) ⟨Nat.le_of_ble_eq_true rfl, Nat.le_of_ble_eq_true rfl⟩) ⟨fun a U g mk q => by obtain ⟨q0, qP, qK⟩ := q; exact ⟨q0, qP, va_K.moved (u := U) (U := U.calling g mk a) (Vm.Alike.refl U.vm) qK⟩, va_recv hKR hPY (ci := 11) (q := (RX9, TX9, 38)) rfl (q0 := 0) rfl, fun U hU hW => ⟨rfl, by rw [hU]; exact hPY, va_K.moved hW.alike hKR⟩⟩ rfl rfl hl.1 rfl (lv_room (Nat.le_of_ble_eq_true rfl)) dL_law_912 ⟨by show K1 + 0 ≤ 601024; omega, by show M1 + 0 ≤ 7293000; omega⟩)) (fun r_6 er_6 => ?_)
    have hr_6 : r_6.toInt = x13_5.toInt := congrArg Int32.toInt (show r_6 = x13_5 from er_6)
    refine lv_iload hx hb dL_law_915 (lv_at hl 0 rfl) ?_
    refine lv_icmp_eq (tgt := 922) hx hb dL_law_917 (by decide) (fun c_7 => ?_) (fun c_7 => ?_)
    · skip
      have ic_7 := iv_eq c_7
      refine lv_goto (tgt := 1103) hx hb dL_law_922 (by decide) ?_
      exact kk e9 st9 lg9 ai9 al9 R9 cap9 num9 f9 (rU (rU stR 5 x5_5) 13 x13_5) lgR aiR alR _ locs ls K1 M1 ⟨hI9, ⟨⟨rf1a, rf1b⟩, ⟨rf2a, rf2b⟩, ⟨rf3a, rf3b⟩, ⟨rf6a, rf6b⟩, ⟨rf7a, rf7b⟩, ⟨rf9a, rf9b⟩, ⟨rf12a, rf12b⟩, ⟨rf15a, rf15b⟩, ⟨rf16a, rf16b⟩, ⟨rf17a, rf17b⟩, ⟨rf21a, rf21b⟩, ⟨rf22a, rf22b⟩, ⟨rf24a, rf24b⟩, ⟨rf26a, rf26b⟩, ⟨rf30a, rf30b⟩, ⟨rf32a, rf32b⟩, ⟨rf37a, rf37b⟩, rR8, rR25, rR31, rR35⟩, hcE, hPZ, hDZ, hPY, rw_D hDY, rw_dj hdj, hS⟩ (lv_sub hl [1, 2, 3, 4, 5] rfl) hcp9 (show (st 13).toInt ≤ (st9 13).toInt by omega) (show (st9 13).toInt ≤ (st 13).toInt + 16 by omega) (by omega) (by omega)
    · skip
      have ic_7 := iv_ne c_7
      exfalso
      omega
  · skip
    refine W_read (fun hu1 hu2 => ?_)
    have hFc := vfree hDZ hS hA
    refine va_calli (vx_runSW (As := [.ref (c 100), .int v_2]) (rest := []) ⟨hx, hb, hml, hown, hts⟩ (h_L_cutB l hl0 dC dI c kc st lg ai al R cap num oa ko fo v_2 _ _ hI (by omega)) (vx_cwSW 2 hts gL_law_L_cut rfl rfl rfl (by decide +kernel) ⟨Nat.le_of_ble_eq_true rfl, Nat.le_of_ble_eq_true rfl⟩) ⟨fun a U g mk q => by obtain ⟨q0, q1, q2, qP, qK, qO, qD, qG⟩ := q; exact ⟨q0, q1, q2, qP, va_K.moved (u := U) (U := U.calling g mk a) (Vm.Alike.refl U.vm) qK, va_K.moved (u := U) (U := U.calling g mk a) (Vm.Alike.refl U.vm) qO, qD, qG.same rfl rfl⟩, fun U hU hW => ⟨rfl, by rw [hU], by rw [hU], by rw [hU]; exact hPZ, va_K.moved hW.alike hK, va_K.moved hW.alike hKo, hDZ.weaken (fun _ _ _ _ => trivial), hY.go hW hU hS hFc (fun h => ⟨rfl, hcE h⟩)⟩⟩ rfl rfl hl.1 rfl (lv_room (Nat.le_of_ble_eq_true rfl)) dL_law_896 ⟨by show K0 + 1 ≤ 601024; omega, by show M0 + 6 ≤ 7293000; omega⟩) hS (fun q _ h => hFc q h) hFc (fun r u t H1 locs ht hvm er hB hz1 hk1 hS => ?_)
    subst er
    obtain ⟨hu, e9, st9, lg9, ai9, al9, R9, cap9, num9, f9, hI9, hc9, hcp9, hn1, hn2, hs1, hs2, hP9, hD9⟩ := hB
    have hN9 : (cap9 : Int) ≤ 10 + 2 * (st9 13).toInt := by have hI := hI9; obtain ⟨⟨hf3a, hf3b⟩, ⟨hf5a, hf5b⟩, ⟨hf6a, hf6b⟩, ⟨hf9a, hf9b⟩, ⟨hf13a, hf13b⟩, ⟨hf15a, hf15b⟩, ⟨hf17a, hf17b⟩, ⟨hf25a, hf25b⟩, ⟨hf26a, hf26b⟩, ⟨hf27a, hf27b⟩, ⟨hf28a, hf28b⟩, ⟨hf37a, hf37b⟩, hR4, hR7, hR23, hR32, hR33, hPI, hN⟩ := hI; exact hN.1
    have hb9 : (st9 13).toInt ≤ 65536 := by have hI := hI9; obtain ⟨⟨hf3a, hf3b⟩, ⟨hf5a, hf5b⟩, ⟨hf6a, hf6b⟩, ⟨hf9a, hf9b⟩, ⟨hf13a, hf13b⟩, ⟨hf15a, hf15b⟩, ⟨hf17a, hf17b⟩, ⟨hf25a, hf25b⟩, ⟨hf26a, hf26b⟩, ⟨hf27a, hf27b⟩, ⟨hf28a, hf28b⟩, ⟨hf37a, hf37b⟩, hR4, hR7, hR23, hR32, hR33, hPI, hN⟩ := hI; exact hf13b
    rw [ht] at hP9 hs1 hs2
    have hdj9 := dj_new hPY hdj hD9
    have hPY := dj_keep hPY hdj hk1
    have hdj := hdj9
    have hDZ := hD9.weaken (fun _ _ _ h => hFc _ h)
    have hPZ := hP9
    have hcE : cap9 = 0 → (rU c 99 e9) 99 = e0 := fun h => (show e9 = e0 from (hc9 h).2.trans (hcE (hc9 h).1))
    obtain ⟨K1, hK1⟩ : ∃ k9 : Nat, (k9 : Int) = (K0 : Int) + 3 + 3 * ((st9 13).toInt - (st 13).toInt) := ⟨((K0 : Int) + 3 + 3 * ((st9 13).toInt - (st 13).toInt)).toNat, by omega⟩
    obtain ⟨M1, hM1⟩ : ∃ m9 : Nat, (m9 : Int) = (M0 : Int) + 18 + 29 * ((st9 13).toInt - (st 13).toInt) + 4 * ((cap9 : Int) - (cap : Int)) := ⟨((M0 : Int) + 18 + 29 * ((st9 13).toInt - (st 13).toInt) + 4 * ((cap9 : Int) - (cap : Int))).toNat, by omega⟩
    refine W_tight (k' := K1) (m' := M1) (by omega) (by omega) ?_
    clear hz1 hk1 hvm hs1 hs2 hu1 hu2 hP9 hD9 hdj9 hFc
    subst ht
    generalize t.heap = H at hPZ hPY hS ⊢
    subst hu
    refine lv_istore (lv' := [(5, .int (1 : Int32)), (4, .int i), (3, .ref oa), (2, .ref o), (1, .ref (c 100)), (0, .ref b)]) hx hb dL_law_899 hl (by decide) rfl (fun ls hl => ?_)
    refine lv_aload_n hx hb dL_law_901 rfl (lv_at hl 3 rfl) ?_
    refine lv_aload_n hx hb dL_law_902 rfl (lv_at hl 5 rfl) ?_
    refine lv_iload hx hb dL_law_903 (lv_at hl 1 rfl) ?_
    refine lv_iconst (v := 1) hx hb dL_law_905 (by decide) ?_
    refine lv_iadd hx hb dL_law_906 ?_
    refine lv_topi (fun v_8 ev_8 => ?_)
    have hv_8 : v_8.toInt = i.toInt + 1 := by rw [ev_8]; exact (iv_add (by omega) (by omega)).trans (by omega)
    clear ev_8
    refine va_sld hx hb hX hbl hbA hS (iv_in (i := v_8) (by omega) (by omega)) dL_law_907 ?_
    refine lv_topi (fun v_9 ev_9 => ?_)
    have hhv_9 : v_9.toInt = v_2.toInt := by rw [ev_9, ev_2, show v_8 = v_1 from Int32.toInt_inj.mp (by omega)]
    have hFc := vfree (rw_D hDY : va_D A (rw_W o cR kR stR lgR aiR alR)) hS hA
    refine va_callv (va_runV (As := [.int v_9]) (rest := []) ⟨hx, hb, hml, hown, hts⟩ (v_X9_cut l dC dI o cR kR stR lgR aiR alR v_9 _ ) (cwV 1 hts gL_law_X9_cut rfl rfl rfl (by decide +kernel) ⟨Nat.le_of_ble_eq_true rfl, Nat.le_of_ble_eq_true rfl⟩) ⟨fun a U g mk q => by obtain ⟨q0, q1, qP, qK, qD⟩ := q; exact ⟨q0, q1, qP, va_K.moved (u := U) (U := U.calling g mk a) (Vm.Alike.refl U.vm) qK, qD⟩, va_recv hKR hPY (ci := 11) (q := (RX9, TX9, 38)) rfl (q0 := 0) rfl, fun U hU hW => ⟨rfl, by rw [hU], by rw [hU]; exact hPY, va_K.moved hW.alike hKR, (rw_D hDY).weaken (fun _ _ _ _ => trivial)⟩⟩ rfl rfl hl.1 rfl (lv_room (Nat.le_of_ble_eq_true rfl)) dL_law_908 ⟨by show K1 + 0 ≤ 601024; omega, by show M1 + 0 ≤ 7293000; omega⟩) hS (fun q _ h => hFc q h) hFc (fun u t H1 locs ht hvm er_10 hB hz1 hk1 hS => ?_)
    obtain ⟨x5_10, x13_10, y90_10, y91_10, hP1⟩ := hB
    rw [ht] at hP1
    have hPZ := dj_keep hPZ (dj_sym (rw_dj (lg' := lgR) (st' := stR) (ai' := aiR) (al' := alR) hdj)) hk1
    clear hPY hz1 hk1 hvm hFc
    subst ht
    have hPY := hP1
    clear hP1
    generalize t.heap = H at hPY hPZ hS ⊢
    have hPY : va_P (dC, dI) vwCl (rw_W o cR kR (rU (rU stR 5 x5_10) 13 x13_10) lgR aiR alR) H := hPY
    have y90_10 : ((-1 ≤ v_9.toInt ∧ v_9.toInt ≤ 5000) → x13_10.toInt = 0) := y90_10
    have y91_10 : ((v_9.toInt < -1 ∨ 5000 < v_9.toInt) → x13_10.toInt = 1) := y91_10
    refine lv_aload_n hx hb dL_law_911 rfl (lv_at hl 3 rfl) ?_
    refine vp_callSi (va_Run.run (va_runV (As := []) (rest := []) ⟨hx, hb, hml, hown, hts⟩ (v_X9_thrownE l dC dI o cR kR (rU (rU stR 5 x5_10) 13 x13_10) lgR aiR alR  ) (cwV 0 hts gL_law_X9_thrown rfl rfl rfl (by decide +kernel) ⟨Nat.le_of_ble_eq_true rfl, Nat.le_of_ble_eq_true rfl⟩) ⟨fun a U g mk q => by obtain ⟨q0, qP, qK⟩ := q; exact ⟨q0, qP, va_K.moved (u := U) (U := U.calling g mk a) (Vm.Alike.refl U.vm) qK⟩, va_recv hKR hPY (ci := 11) (q := (RX9, TX9, 38)) rfl (q0 := 0) rfl, fun U hU hW => ⟨rfl, by rw [hU]; exact hPY, va_K.moved hW.alike hKR⟩⟩ rfl rfl hl.1 rfl (lv_room (Nat.le_of_ble_eq_true rfl)) dL_law_912 ⟨by show K1 + 0 ≤ 601024; omega, by show M1 + 0 ≤ 7293000; omega⟩)) (fun r_11 er_11 => ?_)
    have hr_11 : r_11.toInt = x13_10.toInt := congrArg Int32.toInt (show r_11 = x13_10 from er_11)
    refine lv_iload hx hb dL_law_915 (lv_at hl 0 rfl) ?_
    refine lv_icmp_eq (tgt := 922) hx hb dL_law_917 (by decide) (fun c_12 => ?_) (fun c_12 => ?_)
    · skip
      have ic_12 := iv_eq c_12
      refine lv_goto (tgt := 1103) hx hb dL_law_922 (by decide) ?_
      exact kk e9 st9 lg9 ai9 al9 R9 cap9 num9 f9 (rU (rU stR 5 x5_10) 13 x13_10) lgR aiR alR _ locs ls K1 M1 ⟨hI9, ⟨⟨rf1a, rf1b⟩, ⟨rf2a, rf2b⟩, ⟨rf3a, rf3b⟩, ⟨rf6a, rf6b⟩, ⟨rf7a, rf7b⟩, ⟨rf9a, rf9b⟩, ⟨rf12a, rf12b⟩, ⟨rf15a, rf15b⟩, ⟨rf16a, rf16b⟩, ⟨rf17a, rf17b⟩, ⟨rf21a, rf21b⟩, ⟨rf22a, rf22b⟩, ⟨rf24a, rf24b⟩, ⟨rf26a, rf26b⟩, ⟨rf30a, rf30b⟩, ⟨rf32a, rf32b⟩, ⟨rf37a, rf37b⟩, rR8, rR25, rR31, rR35⟩, hcE, hPZ, hDZ, hPY, rw_D hDY, rw_dj hdj, hS⟩ (lv_sub hl [1, 2, 3, 4, 5] rfl) hcp9 (show (st 13).toInt ≤ (st9 13).toInt by omega) (show (st9 13).toInt ≤ (st 13).toInt + 16 by omega) (by omega) (by omega)
    · skip
      have ic_12 := iv_ne c_12
      exfalso
      omega

set_option maxHeartbeats 4000000 in
set_option maxRecDepth 100000 in
theorem lwq_19 {p : Program} {e : Env} {s : State} {m : MethodId} {below : List Frame} {meth : Method} {cM : Code} (l : Launch) (hl0 : l.stackTraces = false) {A : Nat → Prop} {dC : Nat → ClassId} {dI : Nat → Nat → Nat} {b L e0 : Nat} {xs : Nat → Int32} (kc kR : Nat → ClassId) (ko : ClassId) (oa o : Nat) (cR : Nat → Nat) (c : Nat → Nat) (st : Nat → Int32) (lg : Nat → Int64) (ai : Nat → Nat → Int32) (al : Nat → Nat → Int64) (R : va_W) (cap : Nat) (num : Nat → Int32) (fo : Nat → Int64) (stR : Nat → Int32) (lgR : Nat → Int64) (aiR : Nat → Nat → Int32) (alR : Nat → Nat → Int64) (H : Heap) (locs : List Loc) (ls : Array Slot) (i : Int32) (K0 M0 : Nat) (C0 : lwB p s m meth cM b L xs A e0) (hK : va_K (dC, dI) vwCl (cw_T kc) s) (hKo : va_K (dC, dI) vwCl [(ko, .long)] s) (hKR : va_K (dC, dI) vwCl (rw_T kR) s) (hS0 : lwS (dC, dI) A s e0 kc kR ko oa o cR c st lg ai al R cap num fo stR lgR aiR alR H locs) (hl : lv_has ls 8 [(4, .int i), (3, .ref oa), (2, .ref o), (1, .ref (c 100)), (0, .ref b)]) (hi : 1 ≤ i.toInt) (hi2 : i.toInt + 4 < (L : Int)) (hL : L ≤ 2561) (hK0 : K0 + 100 ≤ 601024) (hM0 : M0 + 1200000 ≤ 7293000) (kk : ∀ (e9 : Nat) (st9 : Nat → Int32) (lg9 : Nat → Int64) (ai9 : Nat → Nat → Int32) (al9 : Nat → Nat → Int64) (R9 : va_W) (cap9 : Nat) (num9 : Nat → Int32) (f9 : Nat → Int64) (sR9 : Nat → Int32) (lR9 : Nat → Int64) (aR9 : Nat → Nat → Int32) (bR9 : Nat → Nat → Int64) (H : Heap) (locs : List Loc) (ls : Array Slot) (K9 M9 : Nat), lwS (dC, dI) A s e0 kc kR ko oa o cR (rU c 99 e9) st9 lg9 ai9 al9 R9 cap9 num9 f9 sR9 lR9 aR9 bR9 H locs → lv_has ls 8 [(4, .int i), (3, .ref oa), (2, .ref o), (1, .ref (c 100)), (0, .ref b)] → cap ≤ cap9 → (st 13).toInt ≤ (st9 13).toInt → (st9 13).toInt ≤ (st 13).toInt + 16 → (K9 : Int) ≤ (K0 : Int) + 3 + 3 * ((st9 13).toInt - (st 13).toInt) → (M9 : Int) ≤ (M0 : Int) + 18 + 29 * ((st9 13).toInt - (st 13).toInt) + 4 * ((cap9 : Int) - (cap : Int)) → W p l e room_1 s m #[Value.ref b] below meth cM H locs K9 M9 (lw_Z below #[Value.ref b] s) (F0 m 1103 ls [])) : W p l e room_1 s m #[Value.ref b] below meth cM H locs K0 M0 (lw_Z below #[Value.ref b] s) (F0 m 925 ls []) := by
  obtain ⟨hx, hb, hr, hml, hown, hts, hX, hbl, hlocks, hA, hA9, hbA, hY⟩ := C0
  obtain ⟨hI, hJ, hcE, hPZ, hDZ, hPY, hDY, hdj, hS⟩ := hS0
  obtain ⟨⟨rf1a, rf1b⟩, ⟨rf2a, rf2b⟩, ⟨rf3a, rf3b⟩, ⟨rf6a, rf6b⟩, ⟨rf7a, rf7b⟩, ⟨rf9a, rf9b⟩, ⟨rf12a, rf12b⟩, ⟨rf15a, rf15b⟩, ⟨rf16a, rf16b⟩, ⟨rf17a, rf17b⟩, ⟨rf21a, rf21b⟩, ⟨rf22a, rf22b⟩, ⟨rf24a, rf24b⟩, ⟨rf26a, rf26b⟩, ⟨rf30a, rf30b⟩, ⟨rf32a, rf32b⟩, ⟨rf37a, rf37b⟩, rR8, rR25, rR31, rR35⟩ := hJ
  have hG := hY.1
  have hGW := hG.1
  have z_0 : (0 : Int32).toInt = 0 := by decide
  have z_1 : (1 : Int32).toInt = 1 := by decide
  refine lv_aload_n hx hb dL_law_925 rfl (lv_at hl 3 rfl) ?_
  obtain ⟨⟨hf3a, hf3b⟩, ⟨hf5a, hf5b⟩, ⟨hf6a, hf6b⟩, ⟨hf9a, hf9b⟩, ⟨hf13a, hf13b⟩, ⟨hf15a, hf15b⟩, ⟨hf17a, hf17b⟩, ⟨hf25a, hf25b⟩, ⟨hf26a, hf26b⟩, ⟨hf27a, hf27b⟩, ⟨hf28a, hf28b⟩, ⟨hf37a, hf37b⟩, hR4, hR7, hR23, hR32, hR33, hPI, hN⟩ := id hI
  have hP : va_P (dC, dI) vwCl (cw_W (rU c 99 (c 99)) kc st lg ai al R) H := by rw [rU_self]; exact vP_l hPZ
  have hO := vP_r hPZ
  have hD : va_D A (cw_W (rU c 99 (c 99)) kc st lg ai al R) := by rw [rU_self]; exact vD_l hDZ
  have hDO := vD_r hDZ
  have hdis : dj (cw_W (rU c 99 (c 99)) kc st lg ai al R) [outC oa ko fo] := by rw [rU_self]; exact vD_dj hDZ
  have hdY : dj (cw_W (rU c 99 (c 99)) kc st lg ai al R) (rw_W o cR kR stR lgR aiR alR) := by rw [rU_self]; exact dj_l hdj
  have hdO := dj_r hdj
  have hc0 : cap = 0 → cap = 0 ∧ c 99 = c 99 := fun h => ⟨h, rfl⟩
  have hcp : cap ≤ cap := Nat.le_refl _
  have hN1 : ((cap : Nat) : Int) ≤ 10 + 2 * (st 13).toInt := hN.1
  have hmono : ∀ y m, pgM (kc 0) R y m → pgM (kc 0) R y m := fun y m h => h
  have hFc := vfree ((cw_D hD : va_D A (cw_W (rU c 99 (c 99)) kc st lg ai al R)) : va_D A (cw_W (rU c 99 (c 99)) kc st lg ai al R)) hS hA
  refine va_calli (va_runV (As := []) (rest := []) ⟨hx, hb, hml, hown, hts⟩ (v_X8_off l dC dI (rU c 99 (c 99)) kc st lg ai al R  _ (show 0 ≤ (st 3).toInt by omega) (show (st 3).toInt ≤ 8 by omega) (show 0 ≤ (st 9).toInt by omega) (show (st 9).toInt ≤ 1 by omega)) (cwV 0 hts gL_law_X8_off rfl rfl rfl (by decide +kernel) ⟨Nat.le_of_ble_eq_true rfl, Nat.le_of_ble_eq_true rfl⟩) ⟨fun a U g mk q => by obtain ⟨q0, q1, qP, qK, qD, qG⟩ := q; exact ⟨q0, q1, qP, va_K.moved (u := U) (U := U.calling g mk a) (Vm.Alike.refl U.vm) qK, qD, qG.same rfl rfl⟩, va_recv hK hP (ci := 10) (q := (RX8, TX8, 10)) rfl (q0 := 0) rfl, fun U hU hW => ⟨rfl, by rw [hU], by rw [hU]; exact hP, va_K.moved hW.alike hK, ((cw_D hD : va_D A (cw_W (rU c 99 (c 99)) kc st lg ai al R))).weaken (fun _ _ _ _ => trivial), hG.go hW hU hS hFc⟩⟩ rfl rfl hl.1 rfl (lv_room (Nat.le_of_ble_eq_true rfl)) dL_law_926 ⟨by show K0 + 0 ≤ 601024; omega, by show M0 + 0 ≤ 7293000; omega⟩) hS (fun q _ h => hFc q h) hFc (fun r_1 ur_1 t H1 locs ht hvm er_1 hB hz1 hk1 hS => ?_)
  subst er_1
  obtain ⟨x3_1, x9_1, k_2, k_3, k_4, k_5, k_6, k_7, hP1⟩ := hB
  rw [ht] at hP1
  have hO1 := dj_keep hO hdis hk1
  have hPY1 := dj_keep hPY hdY hk1
  have hdis1 := hdis
  have hdY1 := hdY
  clear hO hdis hPY hdY
  clear hFc hz1 hk1 hvm hP
  subst ht
  have hP := hP1
  clear hP1
  generalize t.heap = H at hP hS hO1 hPY1 ⊢
  have hP : va_P (dC, dI) vwCl (cw_W (rU c 99 (c 99)) kc (rU (rU st 3 x3_1) 9 x9_1) lg ai al R) H := hP
  have hO := hO1
  have hPY := hPY1
  have hdis := hdis1
  have hdY := hdY1
  clear hO1 hPY1 hdis1 hdY1
  have k_4 : 0 ≤ x3_1.toInt := k_4
  have k_5 : x3_1.toInt ≤ 8 := k_5
  have k_6 : 0 ≤ x9_1.toInt := k_6
  have k_7 : x9_1.toInt ≤ 1 := k_7
  rcases iv_01 (a := r_1) (by omega) (by omega) with b_8 | b_8
  · skip
    have ib_8 := iv_eq b_8
    rw [b_8]
    have hI9 : cI (rU c 99 (c 99)) kc (rU (rU st 3 x3_1) 9 x9_1) ai R cap num := ⟨(show 0 ≤ x3_1.toInt ∧ x3_1.toInt ≤ 8 from ⟨by omega, by omega⟩), (show 0 ≤ (st 5).toInt ∧ (st 5).toInt ≤ 400 from ⟨by omega, by omega⟩), (show 1 ≤ (st 6).toInt ∧ (st 6).toInt ≤ 65536 from ⟨by omega, by omega⟩), (show 0 ≤ x9_1.toInt ∧ x9_1.toInt ≤ 1 from ⟨by omega, by omega⟩), (show 0 ≤ (st 13).toInt ∧ (st 13).toInt ≤ 65536 from ⟨by omega, by omega⟩), (show 0 ≤ (st 15).toInt ∧ (st 15).toInt ≤ 1 from ⟨by omega, by omega⟩), (show 0 ≤ (st 17).toInt ∧ (st 17).toInt ≤ 128 from ⟨by omega, by omega⟩), (show 0 ≤ (st 25).toInt ∧ (st 25).toInt ≤ 128 from ⟨by omega, by omega⟩), (show 0 ≤ (st 26).toInt ∧ (st 26).toInt ≤ 128 from ⟨by omega, by omega⟩), (show -1 ≤ (st 27).toInt ∧ (st 27).toInt ≤ 127 from ⟨by omega, by omega⟩), (show 0 ≤ (st 28).toInt ∧ (st 28).toInt ≤ 1 from ⟨by omega, by omega⟩), (show 0 ≤ (st 37).toInt ∧ (st 37).toInt ≤ 255 from ⟨by omega, by omega⟩), (show aR (ai 4) 400 (-128) 127 from hR4), (show aR (ai 7) 8224 (-128) 127 from hR7), (show aR (ai 23) 128 (0) 127 from hR23), (show aR (ai 32) 16 (0) 400 from hR32), (show aR (ai 33) 16 (0) 255 from hR33), hPI, hN⟩
    have hPZ : va_P (dC, dI) vwCl (cw_W (rU c 99 (c 99)) kc (rU (rU st 3 x3_1) 9 x9_1) lg ai al R ++ [outC oa ko fo]) H := hP.app hO
    have hDZ : va_D A (cw_W (rU c 99 (c 99)) kc (rU (rU st 3 x3_1) 9 x9_1) lg ai al R ++ [outC oa ko fo]) := va_D.app (cw_D hD) hDO (cw_dj hdis)
    have hdj : dj (cw_W (rU c 99 (c 99)) kc (rU (rU st 3 x3_1) 9 x9_1) lg ai al R ++ [outC oa ko fo]) (rw_W o cR kR stR lgR aiR alR) := dj_app (cw_dj hdY) hdO
    refine lv_pop hx hb dL_law_929 rfl ?_
    refine lv_aload_n hx hb dL_law_930 rfl (lv_at hl 2 rfl) ?_
    have hFc := vfree (rw_D hDY : va_D A (rw_W o cR kR stR lgR aiR alR)) hS hA
    refine va_calli (va_runV (As := []) (rest := []) ⟨hx, hb, hml, hown, hts⟩ (v_X9_off l dC dI o cR kR stR lgR aiR alR  _ (show 0 ≤ (stR 3).toInt from rf3a) (show (stR 3).toInt ≤ 1 from rf3b) (show 0 ≤ (stR 12).toInt from rf12a) (show (stR 12).toInt ≤ 8 from rf12b)) (cwV 0 hts gL_law_X9_off rfl rfl rfl (by decide +kernel) ⟨Nat.le_of_ble_eq_true rfl, Nat.le_of_ble_eq_true rfl⟩) ⟨fun a U g mk q => by obtain ⟨q0, q1, qP, qK, qD⟩ := q; exact ⟨q0, q1, qP, va_K.moved (u := U) (U := U.calling g mk a) (Vm.Alike.refl U.vm) qK, qD⟩, va_recv hKR hPY (ci := 11) (q := (RX9, TX9, 38)) rfl (q0 := 0) rfl, fun U hU hW => ⟨rfl, by rw [hU], by rw [hU]; exact hPY, va_K.moved hW.alike hKR, (rw_D hDY).weaken (fun _ _ _ _ => trivial)⟩⟩ rfl rfl hl.1 rfl (lv_room (Nat.le_of_ble_eq_true rfl)) dL_law_931 ⟨by show K0 + 0 ≤ 601024; omega, by show M0 + 0 ≤ 7293000; omega⟩) hS (fun q _ h => hFc q h) hFc (fun r_9 u t H1 locs ht hvm er_9 hB hz1 hk1 hS => ?_)
    subst er_9
    obtain ⟨x3_9, x12_9, x13_9, y90_9, y91_9, y92_9, y93_9, y94_9, y95_9, hP1⟩ := hB
    rw [ht] at hP1
    have hPZ := dj_keep hPZ (dj_sym (rw_dj (lg' := lgR) (st' := stR) (ai' := aiR) (al' := alR) hdj)) hk1
    clear hPY hz1 hk1 hvm hFc
    subst ht
    have hPY := hP1
    clear hP1
    generalize t.heap = H at hPY hPZ hS ⊢
    have hPY : va_P (dC, dI) vwCl (rw_W o cR kR (rU (rU (rU stR 3 x3_9) 12 x12_9) 13 x13_9) lgR aiR alR) H := hPY
    have rf3a : 0 ≤ x3_9.toInt := y92_9
    have rf3b : x3_9.toInt ≤ 1 := y93_9
    have rf12a : 0 ≤ x12_9.toInt := y94_9
    have rf12b : x12_9.toInt ≤ 8 := y95_9
    refine lv_pop hx hb dL_law_934 rfl ?_
    refine lv_goto (tgt := 1103) hx hb dL_law_935 (by decide) ?_
    exact kk (c 99) (rU (rU st 3 x3_1) 9 x9_1) lg ai al R cap num fo (rU (rU (rU stR 3 x3_9) 12 x12_9) 13 x13_9) lgR aiR alR _ locs ls K0 M0 ⟨hI9, ⟨⟨rf1a, rf1b⟩, ⟨rf2a, rf2b⟩, ⟨rf3a, rf3b⟩, ⟨rf6a, rf6b⟩, ⟨rf7a, rf7b⟩, ⟨rf9a, rf9b⟩, ⟨rf12a, rf12b⟩, ⟨rf15a, rf15b⟩, ⟨rf16a, rf16b⟩, ⟨rf17a, rf17b⟩, ⟨rf21a, rf21b⟩, ⟨rf22a, rf22b⟩, ⟨rf24a, rf24b⟩, ⟨rf26a, rf26b⟩, ⟨rf30a, rf30b⟩, ⟨rf32a, rf32b⟩, ⟨rf37a, rf37b⟩, rR8, rR25, rR31, rR35⟩, (fun h => hcE h), hPZ, hDZ, hPY, rw_D hDY, rw_dj hdj, hS⟩ (lv_sub hl [0, 1, 2, 3, 4] rfl) (Nat.le_refl _) (show (st 13).toInt ≤ ((rU (rU st 3 x3_1) 9 x9_1) 13).toInt by show (st 13).toInt ≤ (st 13).toInt; omega) (show ((rU (rU st 3 x3_1) 9 x9_1) 13).toInt ≤ (st 13).toInt + 16 by show (st 13).toInt ≤ (st 13).toInt + 16; omega) (by show (K0 : Int) ≤ (K0 : Int) + 3 + 3 * ((st 13).toInt - (st 13).toInt); omega) (by show (M0 : Int) ≤ (M0 : Int) + 18 + 29 * ((st 13).toInt - (st 13).toInt) + 4 * ((cap : Int) - (cap : Int)); omega)
  · skip
    have ib_8 := iv_eq b_8
    rw [b_8]
    have hI9 : cI (rU c 99 (c 99)) kc (rU (rU st 3 x3_1) 9 x9_1) ai R cap num := ⟨(show 0 ≤ x3_1.toInt ∧ x3_1.toInt ≤ 8 from ⟨by omega, by omega⟩), (show 0 ≤ (st 5).toInt ∧ (st 5).toInt ≤ 400 from ⟨by omega, by omega⟩), (show 1 ≤ (st 6).toInt ∧ (st 6).toInt ≤ 65536 from ⟨by omega, by omega⟩), (show 0 ≤ x9_1.toInt ∧ x9_1.toInt ≤ 1 from ⟨by omega, by omega⟩), (show 0 ≤ (st 13).toInt ∧ (st 13).toInt ≤ 65536 from ⟨by omega, by omega⟩), (show 0 ≤ (st 15).toInt ∧ (st 15).toInt ≤ 1 from ⟨by omega, by omega⟩), (show 0 ≤ (st 17).toInt ∧ (st 17).toInt ≤ 128 from ⟨by omega, by omega⟩), (show 0 ≤ (st 25).toInt ∧ (st 25).toInt ≤ 128 from ⟨by omega, by omega⟩), (show 0 ≤ (st 26).toInt ∧ (st 26).toInt ≤ 128 from ⟨by omega, by omega⟩), (show -1 ≤ (st 27).toInt ∧ (st 27).toInt ≤ 127 from ⟨by omega, by omega⟩), (show 0 ≤ (st 28).toInt ∧ (st 28).toInt ≤ 1 from ⟨by omega, by omega⟩), (show 0 ≤ (st 37).toInt ∧ (st 37).toInt ≤ 255 from ⟨by omega, by omega⟩), (show aR (ai 4) 400 (-128) 127 from hR4), (show aR (ai 7) 8224 (-128) 127 from hR7), (show aR (ai 23) 128 (0) 127 from hR23), (show aR (ai 32) 16 (0) 400 from hR32), (show aR (ai 33) 16 (0) 255 from hR33), hPI, hN⟩
    have hPZ : va_P (dC, dI) vwCl (cw_W (rU c 99 (c 99)) kc (rU (rU st 3 x3_1) 9 x9_1) lg ai al R ++ [outC oa ko fo]) H := hP.app hO
    have hDZ : va_D A (cw_W (rU c 99 (c 99)) kc (rU (rU st 3 x3_1) 9 x9_1) lg ai al R ++ [outC oa ko fo]) := va_D.app (cw_D hD) hDO (cw_dj hdis)
    have hdj : dj (cw_W (rU c 99 (c 99)) kc (rU (rU st 3 x3_1) 9 x9_1) lg ai al R ++ [outC oa ko fo]) (rw_W o cR kR stR lgR aiR alR) := dj_app (cw_dj hdY) hdO
    refine lv_pop hx hb dL_law_929 rfl ?_
    refine lv_aload_n hx hb dL_law_930 rfl (lv_at hl 2 rfl) ?_
    have hFc := vfree (rw_D hDY : va_D A (rw_W o cR kR stR lgR aiR alR)) hS hA
    refine va_calli (va_runV (As := []) (rest := []) ⟨hx, hb, hml, hown, hts⟩ (v_X9_off l dC dI o cR kR stR lgR aiR alR  _ (show 0 ≤ (stR 3).toInt from rf3a) (show (stR 3).toInt ≤ 1 from rf3b) (show 0 ≤ (stR 12).toInt from rf12a) (show (stR 12).toInt ≤ 8 from rf12b)) (cwV 0 hts gL_law_X9_off rfl rfl rfl (by decide +kernel) ⟨Nat.le_of_ble_eq_true rfl, Nat.le_of_ble_eq_true rfl⟩) ⟨fun a U g mk q => by obtain ⟨q0, q1, qP, qK, qD⟩ := q; exact ⟨q0, q1, qP, va_K.moved (u := U) (U := U.calling g mk a) (Vm.Alike.refl U.vm) qK, qD⟩, va_recv hKR hPY (ci := 11) (q := (RX9, TX9, 38)) rfl (q0 := 0) rfl, fun U hU hW => ⟨rfl, by rw [hU], by rw [hU]; exact hPY, va_K.moved hW.alike hKR, (rw_D hDY).weaken (fun _ _ _ _ => trivial)⟩⟩ rfl rfl hl.1 rfl (lv_room (Nat.le_of_ble_eq_true rfl)) dL_law_931 ⟨by show K0 + 0 ≤ 601024; omega, by show M0 + 0 ≤ 7293000; omega⟩) hS (fun q _ h => hFc q h) hFc (fun r_10 u t H1 locs ht hvm er_10 hB hz1 hk1 hS => ?_)
    subst er_10
    obtain ⟨x3_10, x12_10, x13_10, y90_10, y91_10, y92_10, y93_10, y94_10, y95_10, hP1⟩ := hB
    rw [ht] at hP1
    have hPZ := dj_keep hPZ (dj_sym (rw_dj (lg' := lgR) (st' := stR) (ai' := aiR) (al' := alR) hdj)) hk1
    clear hPY hz1 hk1 hvm hFc
    subst ht
    have hPY := hP1
    clear hP1
    generalize t.heap = H at hPY hPZ hS ⊢
    have hPY : va_P (dC, dI) vwCl (rw_W o cR kR (rU (rU (rU stR 3 x3_10) 12 x12_10) 13 x13_10) lgR aiR alR) H := hPY
    have rf3a : 0 ≤ x3_10.toInt := y92_10
    have rf3b : x3_10.toInt ≤ 1 := y93_10
    have rf12a : 0 ≤ x12_10.toInt := y94_10
    have rf12b : x12_10.toInt ≤ 8 := y95_10
    refine lv_pop hx hb dL_law_934 rfl ?_
    refine lv_goto (tgt := 1103) hx hb dL_law_935 (by decide) ?_
    exact kk (c 99) (rU (rU st 3 x3_1) 9 x9_1) lg ai al R cap num fo (rU (rU (rU stR 3 x3_10) 12 x12_10) 13 x13_10) lgR aiR alR _ locs ls K0 M0 ⟨hI9, ⟨⟨rf1a, rf1b⟩, ⟨rf2a, rf2b⟩, ⟨rf3a, rf3b⟩, ⟨rf6a, rf6b⟩, ⟨rf7a, rf7b⟩, ⟨rf9a, rf9b⟩, ⟨rf12a, rf12b⟩, ⟨rf15a, rf15b⟩, ⟨rf16a, rf16b⟩, ⟨rf17a, rf17b⟩, ⟨rf21a, rf21b⟩, ⟨rf22a, rf22b⟩, ⟨rf24a, rf24b⟩, ⟨rf26a, rf26b⟩, ⟨rf30a, rf30b⟩, ⟨rf32a, rf32b⟩, ⟨rf37a, rf37b⟩, rR8, rR25, rR31, rR35⟩, (fun h => hcE h), hPZ, hDZ, hPY, rw_D hDY, rw_dj hdj, hS⟩ (lv_sub hl [0, 1, 2, 3, 4] rfl) (Nat.le_refl _) (show (st 13).toInt ≤ ((rU (rU st 3 x3_1) 9 x9_1) 13).toInt by show (st 13).toInt ≤ (st 13).toInt; omega) (show ((rU (rU st 3 x3_1) 9 x9_1) 13).toInt ≤ (st 13).toInt + 16 by show (st 13).toInt ≤ (st 13).toInt + 16; omega) (by show (K0 : Int) ≤ (K0 : Int) + 3 + 3 * ((st 13).toInt - (st 13).toInt); omega) (by show (M0 : Int) ≤ (M0 : Int) + 18 + 29 * ((st 13).toInt - (st 13).toInt) + 4 * ((cap : Int) - (cap : Int)); omega)

set_option maxHeartbeats 4000000 in
set_option maxRecDepth 100000 in
theorem lwq_20 {p : Program} {e : Env} {s : State} {m : MethodId} {below : List Frame} {meth : Method} {cM : Code} (l : Launch) (hl0 : l.stackTraces = false) {A : Nat → Prop} {dC : Nat → ClassId} {dI : Nat → Nat → Nat} {b L e0 : Nat} {xs : Nat → Int32} (kc kR : Nat → ClassId) (ko : ClassId) (oa o : Nat) (cR : Nat → Nat) (c : Nat → Nat) (st : Nat → Int32) (lg : Nat → Int64) (ai : Nat → Nat → Int32) (al : Nat → Nat → Int64) (R : va_W) (cap : Nat) (num : Nat → Int32) (fo : Nat → Int64) (stR : Nat → Int32) (lgR : Nat → Int64) (aiR : Nat → Nat → Int32) (alR : Nat → Nat → Int64) (H : Heap) (locs : List Loc) (ls : Array Slot) (i : Int32) (K0 M0 : Nat) (C0 : lwB p s m meth cM b L xs A e0) (hK : va_K (dC, dI) vwCl (cw_T kc) s) (hKo : va_K (dC, dI) vwCl [(ko, .long)] s) (hKR : va_K (dC, dI) vwCl (rw_T kR) s) (hS0 : lwS (dC, dI) A s e0 kc kR ko oa o cR c st lg ai al R cap num fo stR lgR aiR alR H locs) (hl : lv_has ls 8 [(4, .int i), (3, .ref oa), (2, .ref o), (1, .ref (c 100)), (0, .ref b)]) (hi : 1 ≤ i.toInt) (hi2 : i.toInt + 4 < (L : Int)) (hL : L ≤ 2561) (hK0 : K0 + 100 ≤ 601024) (hM0 : M0 + 1200000 ≤ 7293000) (kk : ∀ (e9 : Nat) (st9 : Nat → Int32) (lg9 : Nat → Int64) (ai9 : Nat → Nat → Int32) (al9 : Nat → Nat → Int64) (R9 : va_W) (cap9 : Nat) (num9 : Nat → Int32) (f9 : Nat → Int64) (sR9 : Nat → Int32) (lR9 : Nat → Int64) (aR9 : Nat → Nat → Int32) (bR9 : Nat → Nat → Int64) (H : Heap) (locs : List Loc) (ls : Array Slot) (K9 M9 : Nat), lwS (dC, dI) A s e0 kc kR ko oa o cR (rU c 99 e9) st9 lg9 ai9 al9 R9 cap9 num9 f9 sR9 lR9 aR9 bR9 H locs → lv_has ls 8 [(4, .int i), (3, .ref oa), (2, .ref o), (1, .ref (c 100)), (0, .ref b)] → cap ≤ cap9 → (st 13).toInt ≤ (st9 13).toInt → (st9 13).toInt ≤ (st 13).toInt + 16 → (K9 : Int) ≤ (K0 : Int) + 3 + 3 * ((st9 13).toInt - (st 13).toInt) → (M9 : Int) ≤ (M0 : Int) + 18 + 29 * ((st9 13).toInt - (st 13).toInt) + 4 * ((cap9 : Int) - (cap : Int)) → W p l e room_1 s m #[Value.ref b] below meth cM H locs K9 M9 (lw_Z below #[Value.ref b] s) (F0 m 1103 ls [])) : W p l e room_1 s m #[Value.ref b] below meth cM H locs K0 M0 (lw_Z below #[Value.ref b] s) (F0 m 938 ls []) := by
  obtain ⟨hx, hb, hr, hml, hown, hts, hX, hbl, hlocks, hA, hA9, hbA, hY⟩ := C0
  obtain ⟨hI, hJ, hcE, hPZ, hDZ, hPY, hDY, hdj, hS⟩ := hS0
  obtain ⟨⟨rf1a, rf1b⟩, ⟨rf2a, rf2b⟩, ⟨rf3a, rf3b⟩, ⟨rf6a, rf6b⟩, ⟨rf7a, rf7b⟩, ⟨rf9a, rf9b⟩, ⟨rf12a, rf12b⟩, ⟨rf15a, rf15b⟩, ⟨rf16a, rf16b⟩, ⟨rf17a, rf17b⟩, ⟨rf21a, rf21b⟩, ⟨rf22a, rf22b⟩, ⟨rf24a, rf24b⟩, ⟨rf26a, rf26b⟩, ⟨rf30a, rf30b⟩, ⟨rf32a, rf32b⟩, ⟨rf37a, rf37b⟩, rR8, rR25, rR31, rR35⟩ := hJ
  have hG := hY.1
  have hGW := hG.1
  refine lv_aload_n hx hb dL_law_938 rfl (lv_at hl 3 rfl) ?_
  obtain ⟨⟨hf3a, hf3b⟩, ⟨hf5a, hf5b⟩, ⟨hf6a, hf6b⟩, ⟨hf9a, hf9b⟩, ⟨hf13a, hf13b⟩, ⟨hf15a, hf15b⟩, ⟨hf17a, hf17b⟩, ⟨hf25a, hf25b⟩, ⟨hf26a, hf26b⟩, ⟨hf27a, hf27b⟩, ⟨hf28a, hf28b⟩, ⟨hf37a, hf37b⟩, hR4, hR7, hR23, hR32, hR33, hPI, hN⟩ := id hI
  have hP : va_P (dC, dI) vwCl (cw_W (rU c 99 (c 99)) kc st lg ai al R) H := by rw [rU_self]; exact vP_l hPZ
  have hO := vP_r hPZ
  have hD : va_D A (cw_W (rU c 99 (c 99)) kc st lg ai al R) := by rw [rU_self]; exact vD_l hDZ
  have hDO := vD_r hDZ
  have hdis : dj (cw_W (rU c 99 (c 99)) kc st lg ai al R) [outC oa ko fo] := by rw [rU_self]; exact vD_dj hDZ
  have hdY : dj (cw_W (rU c 99 (c 99)) kc st lg ai al R) (rw_W o cR kR stR lgR aiR alR) := by rw [rU_self]; exact dj_l hdj
  have hdO := dj_r hdj
  have hc0 : cap = 0 → cap = 0 ∧ c 99 = c 99 := fun h => ⟨h, rfl⟩
  have hcp : cap ≤ cap := Nat.le_refl _
  have hN1 : ((cap : Nat) : Int) ≤ 10 + 2 * (st 13).toInt := hN.1
  have hmono : ∀ y m, pgM (kc 0) R y m → pgM (kc 0) R y m := fun y m h => h
  have hFc := vfree ((cw_D hD : va_D A (cw_W (rU c 99 (c 99)) kc st lg ai al R)) : va_D A (cw_W (rU c 99 (c 99)) kc st lg ai al R)) hS hA
  refine va_calli (va_runV (As := []) (rest := []) ⟨hx, hb, hml, hown, hts⟩ (v_X8_open l dC dI (rU c 99 (c 99)) kc st lg ai al R cap num  _ hPI (show 0 ≤ (st 9).toInt by omega) (show (st 9).toInt ≤ 1 by omega) (show 0 ≤ (st 13).toInt by omega) (show (st 13).toInt ≤ 65536 by omega) (show 0 ≤ (st 15).toInt by omega) (show (st 15).toInt ≤ 1 by omega) (show 0 ≤ (st 17).toInt by omega) (show (st 17).toInt ≤ 128 by omega) (show 0 ≤ (st 25).toInt by omega) (show (st 25).toInt ≤ 128 by omega) (show 0 ≤ (st 26).toInt by omega) (show (st 26).toInt ≤ 128 by omega) (show -1 ≤ (st 27).toInt by omega) (show (st 27).toInt ≤ 127 by omega) (show 0 ≤ (st 28).toInt by omega) (show (st 28).toInt ≤ 1 by omega) (show aR (ai 7) 8224 (-128) 127 from hR7) (show aR (ai 23) 128 (0) 127 from hR23)) (cwV 0 hts gL_law_X8_open rfl rfl rfl (by decide +kernel) ⟨Nat.le_of_ble_eq_true rfl, Nat.le_of_ble_eq_true rfl⟩) ⟨fun a U g mk q => by obtain ⟨q0, q1, qP, qK, qD, qG⟩ := q; exact ⟨q0, q1, qP, va_K.moved (u := U) (U := U.calling g mk a) (Vm.Alike.refl U.vm) qK, qD, qG.same rfl rfl⟩, va_recv hK hP (ci := 10) (q := (RX8, TX8, 10)) rfl (q0 := 0) rfl, fun U hU hW => ⟨rfl, by rw [hU], by rw [hU]; exact hP, va_K.moved hW.alike hK, ((cw_D hD : va_D A (cw_W (rU c 99 (c 99)) kc st lg ai al R))).weaken (fun _ _ _ _ => trivial), hG.go hW hU hS hFc⟩⟩ rfl rfl hl.1 rfl (lv_room (Nat.le_of_ble_eq_true rfl)) dL_law_939 ⟨by show K0 + 0 ≤ 601024; omega, by show M0 + 0 ≤ 7293000; omega⟩) hS (fun q _ h => hFc q h) hFc (fun r_1 ur_1 t H1 locs ht hvm er_1 hB hz1 hk1 hS => ?_)
  subst er_1
  obtain ⟨x9_1, x10_1, x11_1, x15_1, x16_1, x17_1, x18_1, x25_1, x26_1, x27_1, x28_1, x29_1, f7_1, f8_1, f20_1, f21_1, f22_1, f23_1, g19_1, R_1, k_2, k_3, k_4, k_5, k_6, k_7, k_8, k_9, k_10, k_11, k_12, k_13, k_14, k_15, hR7, hR23, hPI, hmo, hD1, hP1⟩ := hB
  rw [ht] at hP1
  have hO1 := dj_keep hO hdis hk1
  have hPY1 := dj_keep hPY hdY hk1
  have hdis1 := dj_new hO hdis hD1
  have hdY1 := dj_new hPY hdY hD1
  clear hO hdis hPY hdY
  clear hz1 hk1 hvm hP
  subst ht
  have hP := hP1
  clear hP1
  generalize t.heap = H at hP hS hO1 hPY1 ⊢
  have hP : va_P (dC, dI) vwCl (cw_W (rU c 99 (c 99)) kc (rU (rU (rU (rU (rU (rU (rU (rU (rU (rU (rU (rU st 9 x9_1) 10 x10_1) 11 x11_1) 15 x15_1) 16 x16_1) 17 x17_1) 18 x18_1) 25 x25_1) 26 x26_1) 27 x27_1) 28 x28_1) 29 x29_1) lg (rU (rU (rU (rU (rU (rU ai 7 f7_1) 8 f8_1) 20 f20_1) 21 f21_1) 22 f22_1) 23 f23_1) (rU al 19 g19_1) R_1) H := hP
  have hD : va_D A (cw_W (rU c 99 (c 99)) kc st lg ai al R_1) := cw_D (hD1.weaken (fun _ _ _ h => hFc _ h))
  have hPI : PI (kc 98) (kc 0) (c 99) (st 13) cap num none R_1 := hPI
  clear hFc hD1
  have hmono : ∀ y m, pgM (kc 0) R y m → pgM (kc 0) R_1 y m := fun y m h => hmo y m (hmono y m h)
  have hO := hO1
  have hPY := hPY1
  have hdis := hdis1
  have hdY := hdY1
  clear hO1 hPY1 hdis1 hdY1
  have k_2 : 0 ≤ x9_1.toInt := k_2
  have k_3 : x9_1.toInt ≤ 1 := k_3
  have k_4 : 0 ≤ x15_1.toInt := k_4
  have k_5 : x15_1.toInt ≤ 1 := k_5
  have k_6 : 0 ≤ x17_1.toInt := k_6
  have k_7 : x17_1.toInt ≤ 128 := k_7
  have k_8 : 0 ≤ x25_1.toInt := k_8
  have k_9 : x25_1.toInt ≤ 128 := k_9
  have k_10 : 0 ≤ x26_1.toInt := k_10
  have k_11 : x26_1.toInt ≤ 128 := k_11
  have k_12 : -1 ≤ x27_1.toInt := k_12
  have k_13 : x27_1.toInt ≤ 127 := k_13
  have k_14 : 0 ≤ x28_1.toInt := k_14
  have k_15 : x28_1.toInt ≤ 1 := k_15
  have hR7 : aR f7_1 8224 (-128) 127 := hR7
  have hR23 : aR f23_1 128 (0) 127 := hR23
  have hI9 : cI (rU c 99 (c 99)) kc (rU (rU (rU (rU (rU (rU (rU (rU (rU (rU (rU (rU st 9 x9_1) 10 x10_1) 11 x11_1) 15 x15_1) 16 x16_1) 17 x17_1) 18 x18_1) 25 x25_1) 26 x26_1) 27 x27_1) 28 x28_1) 29 x29_1) (rU (rU (rU (rU (rU (rU ai 7 f7_1) 8 f8_1) 20 f20_1) 21 f21_1) 22 f22_1) 23 f23_1) R_1 cap num := ⟨(show 0 ≤ (st 3).toInt ∧ (st 3).toInt ≤ 8 from ⟨by omega, by omega⟩), (show 0 ≤ (st 5).toInt ∧ (st 5).toInt ≤ 400 from ⟨by omega, by omega⟩), (show 1 ≤ (st 6).toInt ∧ (st 6).toInt ≤ 65536 from ⟨by omega, by omega⟩), (show 0 ≤ x9_1.toInt ∧ x9_1.toInt ≤ 1 from ⟨by omega, by omega⟩), (show 0 ≤ (st 13).toInt ∧ (st 13).toInt ≤ 65536 from ⟨by omega, by omega⟩), (show 0 ≤ x15_1.toInt ∧ x15_1.toInt ≤ 1 from ⟨by omega, by omega⟩), (show 0 ≤ x17_1.toInt ∧ x17_1.toInt ≤ 128 from ⟨by omega, by omega⟩), (show 0 ≤ x25_1.toInt ∧ x25_1.toInt ≤ 128 from ⟨by omega, by omega⟩), (show 0 ≤ x26_1.toInt ∧ x26_1.toInt ≤ 128 from ⟨by omega, by omega⟩), (show -1 ≤ x27_1.toInt ∧ x27_1.toInt ≤ 127 from ⟨by omega, by omega⟩), (show 0 ≤ x28_1.toInt ∧ x28_1.toInt ≤ 1 from ⟨by omega, by omega⟩), (show 0 ≤ (st 37).toInt ∧ (st 37).toInt ≤ 255 from ⟨by omega, by omega⟩), (show aR (ai 4) 400 (-128) 127 from hR4), (show aR f7_1 8224 (-128) 127 from hR7), (show aR f23_1 128 (0) 127 from hR23), (show aR (ai 32) 16 (0) 400 from hR32), (show aR (ai 33) 16 (0) 255 from hR33), hPI, hN⟩
  have hPZ : va_P (dC, dI) vwCl (cw_W (rU c 99 (c 99)) kc (rU (rU (rU (rU (rU (rU (rU (rU (rU (rU (rU (rU st 9 x9_1) 10 x10_1) 11 x11_1) 15 x15_1) 16 x16_1) 17 x17_1) 18 x18_1) 25 x25_1) 26 x26_1) 27 x27_1) 28 x28_1) 29 x29_1) lg (rU (rU (rU (rU (rU (rU ai 7 f7_1) 8 f8_1) 20 f20_1) 21 f21_1) 22 f22_1) 23 f23_1) (rU al 19 g19_1) R_1 ++ [outC oa ko fo]) H := hP.app hO
  have hDZ : va_D A (cw_W (rU c 99 (c 99)) kc (rU (rU (rU (rU (rU (rU (rU (rU (rU (rU (rU (rU st 9 x9_1) 10 x10_1) 11 x11_1) 15 x15_1) 16 x16_1) 17 x17_1) 18 x18_1) 25 x25_1) 26 x26_1) 27 x27_1) 28 x28_1) 29 x29_1) lg (rU (rU (rU (rU (rU (rU ai 7 f7_1) 8 f8_1) 20 f20_1) 21 f21_1) 22 f22_1) 23 f23_1) (rU al 19 g19_1) R_1 ++ [outC oa ko fo]) := va_D.app (cw_D hD) hDO (cw_dj hdis)
  have hdj : dj (cw_W (rU c 99 (c 99)) kc (rU (rU (rU (rU (rU (rU (rU (rU (rU (rU (rU (rU st 9 x9_1) 10 x10_1) 11 x11_1) 15 x15_1) 16 x16_1) 17 x17_1) 18 x18_1) 25 x25_1) 26 x26_1) 27 x27_1) 28 x28_1) 29 x29_1) lg (rU (rU (rU (rU (rU (rU ai 7 f7_1) 8 f8_1) 20 f20_1) 21 f21_1) 22 f22_1) 23 f23_1) (rU al 19 g19_1) R_1 ++ [outC oa ko fo]) (rw_W o cR kR stR lgR aiR alR) := dj_app (cw_dj hdY) hdO
  refine lv_pop hx hb dL_law_942 rfl ?_
  refine lv_aload_n hx hb dL_law_943 rfl (lv_at hl 2 rfl) ?_
  have hFc := vfree (rw_D hDY : va_D A (rw_W o cR kR stR lgR aiR alR)) hS hA
  refine va_calli (va_runV (As := []) (rest := []) ⟨hx, hb, hml, hown, hts⟩ (v_X9_open l dC dI o cR kR stR lgR aiR alR  _ (show 1 ≤ (stR 1).toInt from rf1a) (show (stR 1).toInt ≤ 65536 from rf1b) (show 0 ≤ (stR 3).toInt from rf3a) (show (stR 3).toInt ≤ 1 from rf3b) (show 0 ≤ (stR 6).toInt from rf6a) (show (stR 6).toInt ≤ 1 from rf6b) (show 0 ≤ (stR 7).toInt from rf7a) (show (stR 7).toInt ≤ 1 from rf7b) (show 0 ≤ (stR 12).toInt from rf12a) (show (stR 12).toInt ≤ 8 from rf12b) (show 0 ≤ (stR 15).toInt from rf15a) (show (stR 15).toInt ≤ 128 from rf15b)) (cwV 0 hts gL_law_X9_open rfl rfl rfl (by decide +kernel) ⟨Nat.le_of_ble_eq_true rfl, Nat.le_of_ble_eq_true rfl⟩) ⟨fun a U g mk q => by obtain ⟨q0, q1, qP, qK, qD⟩ := q; exact ⟨q0, q1, qP, va_K.moved (u := U) (U := U.calling g mk a) (Vm.Alike.refl U.vm) qK, qD⟩, va_recv hKR hPY (ci := 11) (q := (RX9, TX9, 38)) rfl (q0 := 0) rfl, fun U hU hW => ⟨rfl, by rw [hU], by rw [hU]; exact hPY, va_K.moved hW.alike hKR, (rw_D hDY).weaken (fun _ _ _ _ => trivial)⟩⟩ rfl rfl hl.1 rfl (lv_room (Nat.le_of_ble_eq_true rfl)) dL_law_944 ⟨by show K0 + 0 ≤ 601024; omega, by show M0 + 0 ≤ 7293000; omega⟩) hS (fun q _ h => hFc q h) hFc (fun r_16 u t H1 locs ht hvm er_16 hB hz1 hk1 hS => ?_)
  subst er_16
  obtain ⟨x3_16, x4_16, x5_16, x6_16, x7_16, x12_16, x13_16, x15_16, f0_16, y90_16, y91_16, y92_16, y93_16, y94_16, y95_16, y96_16, y97_16, y98_16, y99_16, hP1⟩ := hB
  rw [ht] at hP1
  have hPZ := dj_keep hPZ (dj_sym (rw_dj (lg' := lgR) (st' := stR) (ai' := aiR) (al' := alR) hdj)) hk1
  clear hPY hz1 hk1 hvm hFc
  subst ht
  have hPY := hP1
  clear hP1
  generalize t.heap = H at hPY hPZ hS ⊢
  have hPY : va_P (dC, dI) vwCl (rw_W o cR kR (rU (rU (rU (rU (rU (rU (rU (rU stR 3 x3_16) 4 x4_16) 5 x5_16) 6 x6_16) 7 x7_16) 12 x12_16) 13 x13_16) 15 x15_16) lgR (rU aiR 0 f0_16) alR) H := hPY
  have rf3a : 0 ≤ x3_16.toInt := y90_16
  have rf3b : x3_16.toInt ≤ 1 := y91_16
  have rf6a : 0 ≤ x6_16.toInt := y92_16
  have rf6b : x6_16.toInt ≤ 1 := y93_16
  have rf7a : 0 ≤ x7_16.toInt := y94_16
  have rf7b : x7_16.toInt ≤ 1 := y95_16
  have rf12a : 0 ≤ x12_16.toInt := y96_16
  have rf12b : x12_16.toInt ≤ 8 := y97_16
  have rf15a : 0 ≤ x15_16.toInt := y98_16
  have rf15b : x15_16.toInt ≤ 128 := y99_16
  refine lv_pop hx hb dL_law_947 rfl ?_
  refine lv_goto (tgt := 1103) hx hb dL_law_948 (by decide) ?_
  exact kk (c 99) (rU (rU (rU (rU (rU (rU (rU (rU (rU (rU (rU (rU st 9 x9_1) 10 x10_1) 11 x11_1) 15 x15_1) 16 x16_1) 17 x17_1) 18 x18_1) 25 x25_1) 26 x26_1) 27 x27_1) 28 x28_1) 29 x29_1) lg (rU (rU (rU (rU (rU (rU ai 7 f7_1) 8 f8_1) 20 f20_1) 21 f21_1) 22 f22_1) 23 f23_1) (rU al 19 g19_1) R_1 cap num fo (rU (rU (rU (rU (rU (rU (rU (rU stR 3 x3_16) 4 x4_16) 5 x5_16) 6 x6_16) 7 x7_16) 12 x12_16) 13 x13_16) 15 x15_16) lgR (rU aiR 0 f0_16) alR _ locs ls K0 M0 ⟨hI9, ⟨⟨rf1a, rf1b⟩, ⟨rf2a, rf2b⟩, ⟨rf3a, rf3b⟩, ⟨rf6a, rf6b⟩, ⟨rf7a, rf7b⟩, ⟨rf9a, rf9b⟩, ⟨rf12a, rf12b⟩, ⟨rf15a, rf15b⟩, ⟨rf16a, rf16b⟩, ⟨rf17a, rf17b⟩, ⟨rf21a, rf21b⟩, ⟨rf22a, rf22b⟩, ⟨rf24a, rf24b⟩, ⟨rf26a, rf26b⟩, ⟨rf30a, rf30b⟩, ⟨rf32a, rf32b⟩, ⟨rf37a, rf37b⟩, rR8, rR25, rR31, rR35⟩, (fun h => hcE h), hPZ, hDZ, hPY, rw_D hDY, rw_dj hdj, hS⟩ (lv_sub hl [0, 1, 2, 3, 4] rfl) (Nat.le_refl _) (show (st 13).toInt ≤ ((rU (rU (rU (rU (rU (rU (rU (rU (rU (rU (rU (rU st 9 x9_1) 10 x10_1) 11 x11_1) 15 x15_1) 16 x16_1) 17 x17_1) 18 x18_1) 25 x25_1) 26 x26_1) 27 x27_1) 28 x28_1) 29 x29_1) 13).toInt by show (st 13).toInt ≤ (st 13).toInt; omega) (show ((rU (rU (rU (rU (rU (rU (rU (rU (rU (rU (rU (rU st 9 x9_1) 10 x10_1) 11 x11_1) 15 x15_1) 16 x16_1) 17 x17_1) 18 x18_1) 25 x25_1) 26 x26_1) 27 x27_1) 28 x28_1) 29 x29_1) 13).toInt ≤ (st 13).toInt + 16 by show (st 13).toInt ≤ (st 13).toInt + 16; omega) (by show (K0 : Int) ≤ (K0 : Int) + 3 + 3 * ((st 13).toInt - (st 13).toInt); omega) (by show (M0 : Int) ≤ (M0 : Int) + 18 + 29 * ((st 13).toInt - (st 13).toInt) + 4 * ((cap : Int) - (cap : Int)); omega)

set_option maxHeartbeats 4000000 in
set_option maxRecDepth 100000 in
theorem lwq_21 {p : Program} {e : Env} {s : State} {m : MethodId} {below : List Frame} {meth : Method} {cM : Code} (l : Launch) (hl0 : l.stackTraces = false) {A : Nat → Prop} {dC : Nat → ClassId} {dI : Nat → Nat → Nat} {b L e0 : Nat} {xs : Nat → Int32} (kc kR : Nat → ClassId) (ko : ClassId) (oa o : Nat) (cR : Nat → Nat) (c : Nat → Nat) (st : Nat → Int32) (lg : Nat → Int64) (ai : Nat → Nat → Int32) (al : Nat → Nat → Int64) (R : va_W) (cap : Nat) (num : Nat → Int32) (fo : Nat → Int64) (stR : Nat → Int32) (lgR : Nat → Int64) (aiR : Nat → Nat → Int32) (alR : Nat → Nat → Int64) (H : Heap) (locs : List Loc) (ls : Array Slot) (i : Int32) (K0 M0 : Nat) (C0 : lwB p s m meth cM b L xs A e0) (hK : va_K (dC, dI) vwCl (cw_T kc) s) (hKo : va_K (dC, dI) vwCl [(ko, .long)] s) (hKR : va_K (dC, dI) vwCl (rw_T kR) s) (hS0 : lwS (dC, dI) A s e0 kc kR ko oa o cR c st lg ai al R cap num fo stR lgR aiR alR H locs) (hl : lv_has ls 8 [(4, .int i), (3, .ref oa), (2, .ref o), (1, .ref (c 100)), (0, .ref b)]) (hi : 1 ≤ i.toInt) (hi2 : i.toInt + 4 < (L : Int)) (hL : L ≤ 2561) (hK0 : K0 + 100 ≤ 601024) (hM0 : M0 + 1200000 ≤ 7293000) (kk : ∀ (e9 : Nat) (st9 : Nat → Int32) (lg9 : Nat → Int64) (ai9 : Nat → Nat → Int32) (al9 : Nat → Nat → Int64) (R9 : va_W) (cap9 : Nat) (num9 : Nat → Int32) (f9 : Nat → Int64) (sR9 : Nat → Int32) (lR9 : Nat → Int64) (aR9 : Nat → Nat → Int32) (bR9 : Nat → Nat → Int64) (H : Heap) (locs : List Loc) (ls : Array Slot) (K9 M9 : Nat), lwS (dC, dI) A s e0 kc kR ko oa o cR (rU c 99 e9) st9 lg9 ai9 al9 R9 cap9 num9 f9 sR9 lR9 aR9 bR9 H locs → lv_has ls 8 [(4, .int i), (3, .ref oa), (2, .ref o), (1, .ref (c 100)), (0, .ref b)] → cap ≤ cap9 → (st 13).toInt ≤ (st9 13).toInt → (st9 13).toInt ≤ (st 13).toInt + 16 → (K9 : Int) ≤ (K0 : Int) + 3 + 3 * ((st9 13).toInt - (st 13).toInt) → (M9 : Int) ≤ (M0 : Int) + 18 + 29 * ((st9 13).toInt - (st 13).toInt) + 4 * ((cap9 : Int) - (cap : Int)) → W p l e room_1 s m #[Value.ref b] below meth cM H locs K9 M9 (lw_Z below #[Value.ref b] s) (F0 m 1103 ls [])) : W p l e room_1 s m #[Value.ref b] below meth cM H locs K0 M0 (lw_Z below #[Value.ref b] s) (F0 m 951 ls []) := by
  obtain ⟨hx, hb, hr, hml, hown, hts, hX, hbl, hlocks, hA, hA9, hbA, hY⟩ := C0
  obtain ⟨hI, hJ, hcE, hPZ, hDZ, hPY, hDY, hdj, hS⟩ := hS0
  obtain ⟨⟨rf1a, rf1b⟩, ⟨rf2a, rf2b⟩, ⟨rf3a, rf3b⟩, ⟨rf6a, rf6b⟩, ⟨rf7a, rf7b⟩, ⟨rf9a, rf9b⟩, ⟨rf12a, rf12b⟩, ⟨rf15a, rf15b⟩, ⟨rf16a, rf16b⟩, ⟨rf17a, rf17b⟩, ⟨rf21a, rf21b⟩, ⟨rf22a, rf22b⟩, ⟨rf24a, rf24b⟩, ⟨rf26a, rf26b⟩, ⟨rf30a, rf30b⟩, ⟨rf32a, rf32b⟩, ⟨rf37a, rf37b⟩, rR8, rR25, rR31, rR35⟩ := hJ
  have hG := hY.1
  have hGW := hG.1
  have z_1 : (1 : Int32).toInt = 1 := by decide
  have z_2 : (2 : Int32).toInt = 2 := by decide
  refine lv_aload_n hx hb dL_law_951 rfl (lv_at hl 3 rfl) ?_
  refine lv_aload_n hx hb dL_law_952 rfl (lv_at hl 4 rfl) ?_
  refine lv_iload hx hb dL_law_953 (lv_at hl 0 rfl) ?_
  refine lv_iconst (v := 1) hx hb dL_law_955 (by decide) ?_
  refine lv_iadd hx hb dL_law_956 ?_
  refine lv_topi (fun v_1 ev_1 => ?_)
  have rg1 := iv_rng i
  have hv_1 : v_1.toInt = i.toInt + 1 := by rw [ev_1]; exact (iv_add (by omega) (by omega)).trans (by omega)
  clear ev_1
  refine va_sld hx hb hX hbl hbA hS (iv_in (i := v_1) (by omega) (by omega)) dL_law_957 ?_
  refine lv_topi (fun v_2 ev_2 => ?_)
  clear ev_2
  refine lv_aload_n hx hb dL_law_958 rfl (lv_at hl 4 rfl) ?_
  refine lv_iload hx hb dL_law_959 (lv_at hl 0 rfl) ?_
  refine lv_iconst (v := 2) hx hb dL_law_961 (by decide) ?_
  refine lv_iadd hx hb dL_law_962 ?_
  refine lv_topi (fun v_3 ev_3 => ?_)
  have hv_3 : v_3.toInt = i.toInt + 2 := by rw [ev_3]; exact (iv_add (by omega) (by omega)).trans (by omega)
  clear ev_3
  refine va_sld hx hb hX hbl hbA hS (iv_in (i := v_3) (by omega) (by omega)) dL_law_963 ?_
  refine lv_topi (fun v_4 ev_4 => ?_)
  clear ev_4
  refine lv_aload_n hx hb dL_law_964 rfl (lv_at hl 1 rfl) ?_
  refine W_read (fun hu1 hu2 => ?_)
  have hFc := vfree hDZ hS hA
  refine va_calli (vx_runSW (As := [.ref (c 100), .int v_2, .int v_4, .ref oa]) (rest := []) ⟨hx, hb, hml, hown, hts⟩ (h_L_poke l hl0 dC dI c kc st lg ai al R cap num oa ko fo v_2 v_4 _ _ hI) (vx_cwSW 4 hts gL_law_L_poke rfl rfl rfl (by decide +kernel) ⟨Nat.le_of_ble_eq_true rfl, Nat.le_of_ble_eq_true rfl⟩) ⟨fun a U g mk q => by obtain ⟨q0, q1, q2, qP, qK, qO, qD, qG⟩ := q; exact ⟨q0, q1, q2, qP, va_K.moved (u := U) (U := U.calling g mk a) (Vm.Alike.refl U.vm) qK, va_K.moved (u := U) (U := U.calling g mk a) (Vm.Alike.refl U.vm) qO, qD, qG.same rfl rfl⟩, fun U hU hW => ⟨rfl, by rw [hU], by rw [hU], by rw [hU]; exact hPZ, va_K.moved hW.alike hK, va_K.moved hW.alike hKo, hDZ.weaken (fun _ _ _ _ => trivial), hY.go hW hU hS hFc (fun h => ⟨rfl, hcE h⟩)⟩⟩ rfl rfl hl.1 rfl (lv_room (Nat.le_of_ble_eq_true rfl)) dL_law_965 ⟨by show K0 + 8 ≤ 601024; omega, by show M0 + 640100 ≤ 7293000; omega⟩) hS (fun q _ h => hFc q h) hFc (fun r u t H1 locs ht hvm er hB hz1 hk1 hS => ?_)
  subst er
  obtain ⟨e9, st9, lg9, ai9, al9, R9, cap9, num9, f9, hI9, hc9, hcp9, hn1, hn2, hs1, hs2, hP9, hD9⟩ := hB
  have hN9 : (cap9 : Int) ≤ 10 + 2 * (st9 13).toInt := by have hI := hI9; obtain ⟨⟨hf3a, hf3b⟩, ⟨hf5a, hf5b⟩, ⟨hf6a, hf6b⟩, ⟨hf9a, hf9b⟩, ⟨hf13a, hf13b⟩, ⟨hf15a, hf15b⟩, ⟨hf17a, hf17b⟩, ⟨hf25a, hf25b⟩, ⟨hf26a, hf26b⟩, ⟨hf27a, hf27b⟩, ⟨hf28a, hf28b⟩, ⟨hf37a, hf37b⟩, hR4, hR7, hR23, hR32, hR33, hPI, hN⟩ := hI; exact hN.1
  have hb9 : (st9 13).toInt ≤ 65536 := by have hI := hI9; obtain ⟨⟨hf3a, hf3b⟩, ⟨hf5a, hf5b⟩, ⟨hf6a, hf6b⟩, ⟨hf9a, hf9b⟩, ⟨hf13a, hf13b⟩, ⟨hf15a, hf15b⟩, ⟨hf17a, hf17b⟩, ⟨hf25a, hf25b⟩, ⟨hf26a, hf26b⟩, ⟨hf27a, hf27b⟩, ⟨hf28a, hf28b⟩, ⟨hf37a, hf37b⟩, hR4, hR7, hR23, hR32, hR33, hPI, hN⟩ := hI; exact hf13b
  rw [ht] at hP9 hs1 hs2
  have hdj9 := dj_new hPY hdj hD9
  have hPY := dj_keep hPY hdj hk1
  have hdj := hdj9
  have hDZ := hD9.weaken (fun _ _ _ h => hFc _ h)
  have hPZ := hP9
  have hcE : cap9 = 0 → (rU c 99 e9) 99 = e0 := fun h => (show e9 = e0 from (hc9 h).2.trans (hcE (hc9 h).1))
  obtain ⟨K1, hK1⟩ : ∃ k9 : Nat, (k9 : Int) = (K0 : Int) + 3 + 3 * ((st9 13).toInt - (st 13).toInt) := ⟨((K0 : Int) + 3 + 3 * ((st9 13).toInt - (st 13).toInt)).toNat, by omega⟩
  obtain ⟨M1, hM1⟩ : ∃ m9 : Nat, (m9 : Int) = (M0 : Int) + 18 + 29 * ((st9 13).toInt - (st 13).toInt) + 4 * ((cap9 : Int) - (cap : Int)) := ⟨((M0 : Int) + 18 + 29 * ((st9 13).toInt - (st 13).toInt) + 4 * ((cap9 : Int) - (cap : Int))).toNat, by omega⟩
  refine W_tight (k' := K1) (m' := M1) (by omega) (by omega) ?_
  clear hz1 hk1 hvm hs1 hs2 hu1 hu2 hP9 hD9 hdj9 hFc
  subst ht
  generalize t.heap = H at hPZ hPY hS ⊢
  refine lv_topi (fun r er9 => ?_)
  clear er9
  refine lv_istore (lv' := [(5, .int r), (4, .int i), (3, .ref oa), (2, .ref o), (1, .ref (c 100)), (0, .ref b)]) hx hb dL_law_968 hl (by decide) rfl (fun ls hl => ?_)
  refine lv_aload_n hx hb dL_law_970 rfl (lv_at hl 3 rfl) ?_
  refine lv_aload_n hx hb dL_law_971 rfl (lv_at hl 5 rfl) ?_
  refine lv_iload hx hb dL_law_972 (lv_at hl 1 rfl) ?_
  refine lv_iconst (v := 1) hx hb dL_law_974 (by decide) ?_
  refine lv_iadd hx hb dL_law_975 ?_
  refine lv_topi (fun v_5 ev_5 => ?_)
  have hv_5 : v_5.toInt = i.toInt + 1 := by rw [ev_5]; exact (iv_add (by omega) (by omega)).trans (by omega)
  clear ev_5
  refine va_sld hx hb hX hbl hbA hS (iv_in (i := v_5) (by omega) (by omega)) dL_law_976 ?_
  refine lv_topi (fun v_6 ev_6 => ?_)
  clear ev_6
  refine lv_aload_n hx hb dL_law_977 rfl (lv_at hl 5 rfl) ?_
  refine lv_iload hx hb dL_law_978 (lv_at hl 1 rfl) ?_
  refine lv_iconst (v := 2) hx hb dL_law_980 (by decide) ?_
  refine lv_iadd hx hb dL_law_981 ?_
  refine lv_topi (fun v_7 ev_7 => ?_)
  have hv_7 : v_7.toInt = i.toInt + 2 := by rw [ev_7]; exact (iv_add (by omega) (by omega)).trans (by omega)
  clear ev_7
  refine va_sld hx hb hX hbl hbA hS (iv_in (i := v_7) (by omega) (by omega)) dL_law_982 ?_
  refine lv_topi (fun v_8 ev_8 => ?_)
  clear ev_8
  have hFc := vfree (rw_D hDY : va_D A (rw_W o cR kR stR lgR aiR alR)) hS hA
  refine va_calli (va_runV (As := [.int v_6, .int v_8]) (rest := []) ⟨hx, hb, hml, hown, hts⟩ (v_X9_poke l dC dI o cR kR stR lgR aiR alR v_6 v_8 _ (show 8224 ≤ (stR 2).toInt from rf2a) (show (stR 2).toInt ≤ 1712160 from rf2b) (show 0 ≤ (stR 3).toInt from rf3a) (show (stR 3).toInt ≤ 1 from rf3b)) (cwV 2 hts gL_law_X9_poke rfl rfl rfl (by decide +kernel) ⟨Nat.le_of_ble_eq_true rfl, Nat.le_of_ble_eq_true rfl⟩) ⟨fun a U g mk q => by obtain ⟨q0, q1, qP, qK, qD⟩ := q; exact ⟨q0, q1, qP, va_K.moved (u := U) (U := U.calling g mk a) (Vm.Alike.refl U.vm) qK, qD⟩, va_recv hKR hPY (ci := 11) (q := (RX9, TX9, 38)) rfl (q0 := 0) rfl, fun U hU hW => ⟨rfl, by rw [hU], by rw [hU]; exact hPY, va_K.moved hW.alike hKR, (rw_D hDY).weaken (fun _ _ _ _ => trivial)⟩⟩ rfl rfl hl.1 rfl (lv_room (Nat.le_of_ble_eq_true rfl)) dL_law_983 ⟨by show K1 + 0 ≤ 601024; omega, by show M1 + 0 ≤ 7293000; omega⟩) hS (fun q _ h => hFc q h) hFc (fun r_9 u t H1 locs ht hvm er_9 hB hz1 hk1 hS => ?_)
  subst er_9
  obtain ⟨x13_9, f0_9, hP1⟩ := hB
  rw [ht] at hP1
  have hPZ := dj_keep hPZ (dj_sym (rw_dj (lg' := lgR) (st' := stR) (ai' := aiR) (al' := alR) hdj)) hk1
  clear hPY hz1 hk1 hvm hFc
  subst ht
  have hPY := hP1
  clear hP1
  generalize t.heap = H at hPY hPZ hS ⊢
  have hPY : va_P (dC, dI) vwCl (rw_W o cR kR (rU stR 13 x13_9) lgR (rU aiR 0 f0_9) alR) H := hPY
  refine lv_istore (lv' := [(6, .int r_9), (5, .int r), (4, .int i), (3, .ref oa), (2, .ref o), (1, .ref (c 100)), (0, .ref b)]) hx hb dL_law_986 hl (by decide) rfl (fun ls hl => ?_)
  refine lv_goto (tgt := 1103) hx hb dL_law_988 (by decide) ?_
  exact kk e9 st9 lg9 ai9 al9 R9 cap9 num9 f9 (rU stR 13 x13_9) lgR (rU aiR 0 f0_9) alR _ locs ls K1 M1 ⟨hI9, ⟨⟨rf1a, rf1b⟩, ⟨rf2a, rf2b⟩, ⟨rf3a, rf3b⟩, ⟨rf6a, rf6b⟩, ⟨rf7a, rf7b⟩, ⟨rf9a, rf9b⟩, ⟨rf12a, rf12b⟩, ⟨rf15a, rf15b⟩, ⟨rf16a, rf16b⟩, ⟨rf17a, rf17b⟩, ⟨rf21a, rf21b⟩, ⟨rf22a, rf22b⟩, ⟨rf24a, rf24b⟩, ⟨rf26a, rf26b⟩, ⟨rf30a, rf30b⟩, ⟨rf32a, rf32b⟩, ⟨rf37a, rf37b⟩, rR8, rR25, rR31, rR35⟩, hcE, hPZ, hDZ, hPY, rw_D hDY, rw_dj hdj, hS⟩ (lv_sub hl [2, 3, 4, 5, 6] rfl) hcp9 (show (st 13).toInt ≤ (st9 13).toInt by omega) (show (st9 13).toInt ≤ (st 13).toInt + 16 by omega) (by omega) (by omega)

set_option maxHeartbeats 4000000 in
set_option maxRecDepth 100000 in
theorem lwq_22 {p : Program} {e : Env} {s : State} {m : MethodId} {below : List Frame} {meth : Method} {cM : Code} (l : Launch) (hl0 : l.stackTraces = false) {A : Nat → Prop} {dC : Nat → ClassId} {dI : Nat → Nat → Nat} {b L e0 : Nat} {xs : Nat → Int32} (kc kR : Nat → ClassId) (ko : ClassId) (oa o : Nat) (cR : Nat → Nat) (c : Nat → Nat) (st : Nat → Int32) (lg : Nat → Int64) (ai : Nat → Nat → Int32) (al : Nat → Nat → Int64) (R : va_W) (cap : Nat) (num : Nat → Int32) (fo : Nat → Int64) (stR : Nat → Int32) (lgR : Nat → Int64) (aiR : Nat → Nat → Int32) (alR : Nat → Nat → Int64) (H : Heap) (locs : List Loc) (ls : Array Slot) (i : Int32) (K0 M0 : Nat) (C0 : lwB p s m meth cM b L xs A e0) (hK : va_K (dC, dI) vwCl (cw_T kc) s) (hKo : va_K (dC, dI) vwCl [(ko, .long)] s) (hKR : va_K (dC, dI) vwCl (rw_T kR) s) (hS0 : lwS (dC, dI) A s e0 kc kR ko oa o cR c st lg ai al R cap num fo stR lgR aiR alR H locs) (hl : lv_has ls 8 [(4, .int i), (3, .ref oa), (2, .ref o), (1, .ref (c 100)), (0, .ref b)]) (hi : 1 ≤ i.toInt) (hi2 : i.toInt + 4 < (L : Int)) (hL : L ≤ 2561) (hK0 : K0 + 100 ≤ 601024) (hM0 : M0 + 1200000 ≤ 7293000) (kk : ∀ (e9 : Nat) (st9 : Nat → Int32) (lg9 : Nat → Int64) (ai9 : Nat → Nat → Int32) (al9 : Nat → Nat → Int64) (R9 : va_W) (cap9 : Nat) (num9 : Nat → Int32) (f9 : Nat → Int64) (sR9 : Nat → Int32) (lR9 : Nat → Int64) (aR9 : Nat → Nat → Int32) (bR9 : Nat → Nat → Int64) (H : Heap) (locs : List Loc) (ls : Array Slot) (K9 M9 : Nat), lwS (dC, dI) A s e0 kc kR ko oa o cR (rU c 99 e9) st9 lg9 ai9 al9 R9 cap9 num9 f9 sR9 lR9 aR9 bR9 H locs → lv_has ls 8 [(4, .int i), (3, .ref oa), (2, .ref o), (1, .ref (c 100)), (0, .ref b)] → cap ≤ cap9 → (st 13).toInt ≤ (st9 13).toInt → (st9 13).toInt ≤ (st 13).toInt + 16 → (K9 : Int) ≤ (K0 : Int) + 3 + 3 * ((st9 13).toInt - (st 13).toInt) → (M9 : Int) ≤ (M0 : Int) + 18 + 29 * ((st9 13).toInt - (st 13).toInt) + 4 * ((cap9 : Int) - (cap : Int)) → W p l e room_1 s m #[Value.ref b] below meth cM H locs K9 M9 (lw_Z below #[Value.ref b] s) (F0 m 1103 ls [])) : W p l e room_1 s m #[Value.ref b] below meth cM H locs K0 M0 (lw_Z below #[Value.ref b] s) (F0 m 991 ls []) := by
  obtain ⟨hx, hb, hr, hml, hown, hts, hX, hbl, hlocks, hA, hA9, hbA, hY⟩ := C0
  obtain ⟨hI, hJ, hcE, hPZ, hDZ, hPY, hDY, hdj, hS⟩ := hS0
  obtain ⟨⟨rf1a, rf1b⟩, ⟨rf2a, rf2b⟩, ⟨rf3a, rf3b⟩, ⟨rf6a, rf6b⟩, ⟨rf7a, rf7b⟩, ⟨rf9a, rf9b⟩, ⟨rf12a, rf12b⟩, ⟨rf15a, rf15b⟩, ⟨rf16a, rf16b⟩, ⟨rf17a, rf17b⟩, ⟨rf21a, rf21b⟩, ⟨rf22a, rf22b⟩, ⟨rf24a, rf24b⟩, ⟨rf26a, rf26b⟩, ⟨rf30a, rf30b⟩, ⟨rf32a, rf32b⟩, ⟨rf37a, rf37b⟩, rR8, rR25, rR31, rR35⟩ := hJ
  have hG := hY.1
  have hGW := hG.1
  have z_1 : (1 : Int32).toInt = 1 := by decide
  refine lv_aload_n hx hb dL_law_991 rfl (lv_at hl 3 rfl) ?_
  refine lv_aload_n hx hb dL_law_992 rfl (lv_at hl 4 rfl) ?_
  refine lv_iload hx hb dL_law_993 (lv_at hl 0 rfl) ?_
  refine lv_iconst (v := 1) hx hb dL_law_995 (by decide) ?_
  refine lv_iadd hx hb dL_law_996 ?_
  refine lv_topi (fun v_1 ev_1 => ?_)
  have rg1 := iv_rng i
  have hv_1 : v_1.toInt = i.toInt + 1 := by rw [ev_1]; exact (iv_add (by omega) (by omega)).trans (by omega)
  clear ev_1
  refine va_sld hx hb hX hbl hbA hS (iv_in (i := v_1) (by omega) (by omega)) dL_law_997 ?_
  refine lv_topi (fun v_2 ev_2 => ?_)
  clear ev_2
  refine lv_aload_n hx hb dL_law_998 rfl (lv_at hl 1 rfl) ?_
  refine W_read (fun hu1 hu2 => ?_)
  have hFc := vfree hDZ hS hA
  refine va_calli (vx_runSW (As := [.ref (c 100), .int v_2, .ref oa]) (rest := []) ⟨hx, hb, hml, hown, hts⟩ (h_L_byteAt l hl0 dC dI c kc st lg ai al R cap num oa ko fo v_2 _ _ hI) (vx_cwSW 3 hts gL_law_L_byteAt rfl rfl rfl (by decide +kernel) ⟨Nat.le_of_ble_eq_true rfl, Nat.le_of_ble_eq_true rfl⟩) ⟨fun a U g mk q => by obtain ⟨q0, q1, q2, qP, qK, qO, qD, qG⟩ := q; exact ⟨q0, q1, q2, qP, va_K.moved (u := U) (U := U.calling g mk a) (Vm.Alike.refl U.vm) qK, va_K.moved (u := U) (U := U.calling g mk a) (Vm.Alike.refl U.vm) qO, qD, qG.same rfl rfl⟩, fun U hU hW => ⟨rfl, by rw [hU], by rw [hU], by rw [hU]; exact hPZ, va_K.moved hW.alike hK, va_K.moved hW.alike hKo, hDZ.weaken (fun _ _ _ _ => trivial), hY.go hW hU hS hFc (fun h => ⟨rfl, hcE h⟩)⟩⟩ rfl rfl hl.1 rfl (lv_room (Nat.le_of_ble_eq_true rfl)) dL_law_999 ⟨by show K0 + 1 ≤ 601024; omega, by show M0 + 6 ≤ 7293000; omega⟩) hS (fun q _ h => hFc q h) hFc (fun r u t H1 locs ht hvm er hB hz1 hk1 hS => ?_)
  subst er
  obtain ⟨e9, st9, lg9, ai9, al9, R9, cap9, num9, f9, hI9, hc9, hcp9, hn1, hn2, hs1, hs2, hP9, hD9⟩ := hB
  have hN9 : (cap9 : Int) ≤ 10 + 2 * (st9 13).toInt := by have hI := hI9; obtain ⟨⟨hf3a, hf3b⟩, ⟨hf5a, hf5b⟩, ⟨hf6a, hf6b⟩, ⟨hf9a, hf9b⟩, ⟨hf13a, hf13b⟩, ⟨hf15a, hf15b⟩, ⟨hf17a, hf17b⟩, ⟨hf25a, hf25b⟩, ⟨hf26a, hf26b⟩, ⟨hf27a, hf27b⟩, ⟨hf28a, hf28b⟩, ⟨hf37a, hf37b⟩, hR4, hR7, hR23, hR32, hR33, hPI, hN⟩ := hI; exact hN.1
  have hb9 : (st9 13).toInt ≤ 65536 := by have hI := hI9; obtain ⟨⟨hf3a, hf3b⟩, ⟨hf5a, hf5b⟩, ⟨hf6a, hf6b⟩, ⟨hf9a, hf9b⟩, ⟨hf13a, hf13b⟩, ⟨hf15a, hf15b⟩, ⟨hf17a, hf17b⟩, ⟨hf25a, hf25b⟩, ⟨hf26a, hf26b⟩, ⟨hf27a, hf27b⟩, ⟨hf28a, hf28b⟩, ⟨hf37a, hf37b⟩, hR4, hR7, hR23, hR32, hR33, hPI, hN⟩ := hI; exact hf13b
  rw [ht] at hP9 hs1 hs2
  have hdj9 := dj_new hPY hdj hD9
  have hPY := dj_keep hPY hdj hk1
  have hdj := hdj9
  have hDZ := hD9.weaken (fun _ _ _ h => hFc _ h)
  have hPZ := hP9
  have hcE : cap9 = 0 → (rU c 99 e9) 99 = e0 := fun h => (show e9 = e0 from (hc9 h).2.trans (hcE (hc9 h).1))
  obtain ⟨K1, hK1⟩ : ∃ k9 : Nat, (k9 : Int) = (K0 : Int) + 3 + 3 * ((st9 13).toInt - (st 13).toInt) := ⟨((K0 : Int) + 3 + 3 * ((st9 13).toInt - (st 13).toInt)).toNat, by omega⟩
  obtain ⟨M1, hM1⟩ : ∃ m9 : Nat, (m9 : Int) = (M0 : Int) + 18 + 29 * ((st9 13).toInt - (st 13).toInt) + 4 * ((cap9 : Int) - (cap : Int)) := ⟨((M0 : Int) + 18 + 29 * ((st9 13).toInt - (st 13).toInt) + 4 * ((cap9 : Int) - (cap : Int))).toNat, by omega⟩
  refine W_tight (k' := K1) (m' := M1) (by omega) (by omega) ?_
  clear hz1 hk1 hvm hs1 hs2 hu1 hu2 hP9 hD9 hdj9 hFc
  subst ht
  generalize t.heap = H at hPZ hPY hS ⊢
  refine lv_topi (fun r er9 => ?_)
  clear er9
  refine lv_istore (lv' := [(5, .int r), (4, .int i), (3, .ref oa), (2, .ref o), (1, .ref (c 100)), (0, .ref b)]) hx hb dL_law_1002 hl (by decide) rfl (fun ls hl => ?_)
  refine lv_aload_n hx hb dL_law_1004 rfl (lv_at hl 3 rfl) ?_
  refine lv_aload_n hx hb dL_law_1005 rfl (lv_at hl 5 rfl) ?_
  refine lv_iload hx hb dL_law_1006 (lv_at hl 1 rfl) ?_
  refine lv_iconst (v := 1) hx hb dL_law_1008 (by decide) ?_
  refine lv_iadd hx hb dL_law_1009 ?_
  refine lv_topi (fun v_3 ev_3 => ?_)
  have hv_3 : v_3.toInt = i.toInt + 1 := by rw [ev_3]; exact (iv_add (by omega) (by omega)).trans (by omega)
  clear ev_3
  refine va_sld hx hb hX hbl hbA hS (iv_in (i := v_3) (by omega) (by omega)) dL_law_1010 ?_
  refine lv_topi (fun v_4 ev_4 => ?_)
  clear ev_4
  have hFc := vfree (rw_D hDY : va_D A (rw_W o cR kR stR lgR aiR alR)) hS hA
  refine va_calli (va_runV (As := [.int v_4]) (rest := []) ⟨hx, hb, hml, hown, hts⟩ (v_X9_byteAt l dC dI o cR kR stR lgR aiR alR v_4 _ (show 8224 ≤ (stR 2).toInt from rf2a) (show (stR 2).toInt ≤ 1712160 from rf2b)) (cwV 1 hts gL_law_X9_byteAt rfl rfl rfl (by decide +kernel) ⟨Nat.le_of_ble_eq_true rfl, Nat.le_of_ble_eq_true rfl⟩) ⟨fun a U g mk q => by obtain ⟨q0, q1, qP, qK, qD⟩ := q; exact ⟨q0, q1, qP, va_K.moved (u := U) (U := U.calling g mk a) (Vm.Alike.refl U.vm) qK, qD⟩, va_recv hKR hPY (ci := 11) (q := (RX9, TX9, 38)) rfl (q0 := 0) rfl, fun U hU hW => ⟨rfl, by rw [hU], by rw [hU]; exact hPY, va_K.moved hW.alike hKR, (rw_D hDY).weaken (fun _ _ _ _ => trivial)⟩⟩ rfl rfl hl.1 rfl (lv_room (Nat.le_of_ble_eq_true rfl)) dL_law_1011 ⟨by show K1 + 0 ≤ 601024; omega, by show M1 + 0 ≤ 7293000; omega⟩) hS (fun q _ h => hFc q h) hFc (fun r_5 u t H1 locs ht hvm er_5 hB hz1 hk1 hS => ?_)
  subst er_5
  obtain ⟨x13_5, hP1⟩ := hB
  rw [ht] at hP1
  have hPZ := dj_keep hPZ (dj_sym (rw_dj (lg' := lgR) (st' := stR) (ai' := aiR) (al' := alR) hdj)) hk1
  clear hPY hz1 hk1 hvm hFc
  subst ht
  have hPY := hP1
  clear hP1
  generalize t.heap = H at hPY hPZ hS ⊢
  have hPY : va_P (dC, dI) vwCl (rw_W o cR kR (rU stR 13 x13_5) lgR aiR alR) H := hPY
  refine lv_istore (lv' := [(6, .int r_5), (5, .int r), (4, .int i), (3, .ref oa), (2, .ref o), (1, .ref (c 100)), (0, .ref b)]) hx hb dL_law_1014 hl (by decide) rfl (fun ls hl => ?_)
  refine lv_goto (tgt := 1103) hx hb dL_law_1016 (by decide) ?_
  exact kk e9 st9 lg9 ai9 al9 R9 cap9 num9 f9 (rU stR 13 x13_5) lgR aiR alR _ locs ls K1 M1 ⟨hI9, ⟨⟨rf1a, rf1b⟩, ⟨rf2a, rf2b⟩, ⟨rf3a, rf3b⟩, ⟨rf6a, rf6b⟩, ⟨rf7a, rf7b⟩, ⟨rf9a, rf9b⟩, ⟨rf12a, rf12b⟩, ⟨rf15a, rf15b⟩, ⟨rf16a, rf16b⟩, ⟨rf17a, rf17b⟩, ⟨rf21a, rf21b⟩, ⟨rf22a, rf22b⟩, ⟨rf24a, rf24b⟩, ⟨rf26a, rf26b⟩, ⟨rf30a, rf30b⟩, ⟨rf32a, rf32b⟩, ⟨rf37a, rf37b⟩, rR8, rR25, rR31, rR35⟩, hcE, hPZ, hDZ, hPY, rw_D hDY, rw_dj hdj, hS⟩ (lv_sub hl [2, 3, 4, 5, 6] rfl) hcp9 (show (st 13).toInt ≤ (st9 13).toInt by omega) (show (st9 13).toInt ≤ (st 13).toInt + 16 by omega) (by omega) (by omega)

set_option maxHeartbeats 4000000 in
set_option maxRecDepth 100000 in
theorem lwq_23 {p : Program} {e : Env} {s : State} {m : MethodId} {below : List Frame} {meth : Method} {cM : Code} (l : Launch) (hl0 : l.stackTraces = false) {A : Nat → Prop} {dC : Nat → ClassId} {dI : Nat → Nat → Nat} {b L e0 : Nat} {xs : Nat → Int32} (kc kR : Nat → ClassId) (ko : ClassId) (oa o : Nat) (cR : Nat → Nat) (c : Nat → Nat) (st : Nat → Int32) (lg : Nat → Int64) (ai : Nat → Nat → Int32) (al : Nat → Nat → Int64) (R : va_W) (cap : Nat) (num : Nat → Int32) (fo : Nat → Int64) (stR : Nat → Int32) (lgR : Nat → Int64) (aiR : Nat → Nat → Int32) (alR : Nat → Nat → Int64) (H : Heap) (locs : List Loc) (ls : Array Slot) (i : Int32) (K0 M0 : Nat) (C0 : lwB p s m meth cM b L xs A e0) (hK : va_K (dC, dI) vwCl (cw_T kc) s) (hKo : va_K (dC, dI) vwCl [(ko, .long)] s) (hKR : va_K (dC, dI) vwCl (rw_T kR) s) (hS0 : lwS (dC, dI) A s e0 kc kR ko oa o cR c st lg ai al R cap num fo stR lgR aiR alR H locs) (hl : lv_has ls 8 [(4, .int i), (3, .ref oa), (2, .ref o), (1, .ref (c 100)), (0, .ref b)]) (hi : 1 ≤ i.toInt) (hi2 : i.toInt + 4 < (L : Int)) (hL : L ≤ 2561) (hK0 : K0 + 100 ≤ 601024) (hM0 : M0 + 1200000 ≤ 7293000) (kk : ∀ (e9 : Nat) (st9 : Nat → Int32) (lg9 : Nat → Int64) (ai9 : Nat → Nat → Int32) (al9 : Nat → Nat → Int64) (R9 : va_W) (cap9 : Nat) (num9 : Nat → Int32) (f9 : Nat → Int64) (sR9 : Nat → Int32) (lR9 : Nat → Int64) (aR9 : Nat → Nat → Int32) (bR9 : Nat → Nat → Int64) (H : Heap) (locs : List Loc) (ls : Array Slot) (K9 M9 : Nat), lwS (dC, dI) A s e0 kc kR ko oa o cR (rU c 99 e9) st9 lg9 ai9 al9 R9 cap9 num9 f9 sR9 lR9 aR9 bR9 H locs → lv_has ls 8 [(4, .int i), (3, .ref oa), (2, .ref o), (1, .ref (c 100)), (0, .ref b)] → cap ≤ cap9 → (st 13).toInt ≤ (st9 13).toInt → (st9 13).toInt ≤ (st 13).toInt + 16 → (K9 : Int) ≤ (K0 : Int) + 3 + 3 * ((st9 13).toInt - (st 13).toInt) → (M9 : Int) ≤ (M0 : Int) + 18 + 29 * ((st9 13).toInt - (st 13).toInt) + 4 * ((cap9 : Int) - (cap : Int)) → W p l e room_1 s m #[Value.ref b] below meth cM H locs K9 M9 (lw_Z below #[Value.ref b] s) (F0 m 1103 ls [])) : W p l e room_1 s m #[Value.ref b] below meth cM H locs K0 M0 (lw_Z below #[Value.ref b] s) (F0 m 1019 ls []) := by
  obtain ⟨hx, hb, hr, hml, hown, hts, hX, hbl, hlocks, hA, hA9, hbA, hY⟩ := C0
  obtain ⟨hI, hJ, hcE, hPZ, hDZ, hPY, hDY, hdj, hS⟩ := hS0
  obtain ⟨⟨rf1a, rf1b⟩, ⟨rf2a, rf2b⟩, ⟨rf3a, rf3b⟩, ⟨rf6a, rf6b⟩, ⟨rf7a, rf7b⟩, ⟨rf9a, rf9b⟩, ⟨rf12a, rf12b⟩, ⟨rf15a, rf15b⟩, ⟨rf16a, rf16b⟩, ⟨rf17a, rf17b⟩, ⟨rf21a, rf21b⟩, ⟨rf22a, rf22b⟩, ⟨rf24a, rf24b⟩, ⟨rf26a, rf26b⟩, ⟨rf30a, rf30b⟩, ⟨rf32a, rf32b⟩, ⟨rf37a, rf37b⟩, rR8, rR25, rR31, rR35⟩ := hJ
  have hG := hY.1
  have hGW := hG.1
  have z_1 : (1 : Int32).toInt = 1 := by decide
  refine lv_aload_n hx hb dL_law_1019 rfl (lv_at hl 3 rfl) ?_
  refine lv_aload_n hx hb dL_law_1020 rfl (lv_at hl 4 rfl) ?_
  refine lv_iload hx hb dL_law_1021 (lv_at hl 0 rfl) ?_
  refine lv_iconst (v := 1) hx hb dL_law_1023 (by decide) ?_
  refine lv_iadd hx hb dL_law_1024 ?_
  refine lv_topi (fun v_1 ev_1 => ?_)
  have rg1 := iv_rng i
  have hv_1 : v_1.toInt = i.toInt + 1 := by rw [ev_1]; exact (iv_add (by omega) (by omega)).trans (by omega)
  clear ev_1
  refine va_sld hx hb hX hbl hbA hS (iv_in (i := v_1) (by omega) (by omega)) dL_law_1025 ?_
  refine lv_topi (fun v_2 ev_2 => ?_)
  clear ev_2
  refine lv_aload_n hx hb dL_law_1026 rfl (lv_at hl 1 rfl) ?_
  refine W_read (fun hu1 hu2 => ?_)
  have hFc := vfree hDZ hS hA
  refine va_calli (vx_runSW (As := [.ref (c 100), .int v_2, .ref oa]) (rest := []) ⟨hx, hb, hml, hown, hts⟩ (h_L_asked l hl0 dC dI c kc st lg ai al R cap num oa ko fo v_2 _ _ hI) (vx_cwSW 3 hts gL_law_L_asked rfl rfl rfl (by decide +kernel) ⟨Nat.le_of_ble_eq_true rfl, Nat.le_of_ble_eq_true rfl⟩) ⟨fun a U g mk q => by obtain ⟨q0, q1, q2, qP, qK, qO, qD, qG⟩ := q; exact ⟨q0, q1, q2, qP, va_K.moved (u := U) (U := U.calling g mk a) (Vm.Alike.refl U.vm) qK, va_K.moved (u := U) (U := U.calling g mk a) (Vm.Alike.refl U.vm) qO, qD, qG.same rfl rfl⟩, fun U hU hW => ⟨rfl, by rw [hU], by rw [hU], by rw [hU]; exact hPZ, va_K.moved hW.alike hK, va_K.moved hW.alike hKo, hDZ.weaken (fun _ _ _ _ => trivial), hY.go hW hU hS hFc (fun h => ⟨rfl, hcE h⟩)⟩⟩ rfl rfl hl.1 rfl (lv_room (Nat.le_of_ble_eq_true rfl)) dL_law_1027 ⟨by show K0 + 1 ≤ 601024; omega, by show M0 + 6 ≤ 7293000; omega⟩) hS (fun q _ h => hFc q h) hFc (fun r u t H1 locs ht hvm er hB hz1 hk1 hS => ?_)
  subst er
  obtain ⟨e9, st9, lg9, ai9, al9, R9, cap9, num9, f9, hI9, hc9, hcp9, hn1, hn2, hs1, hs2, hP9, hD9⟩ := hB
  have hN9 : (cap9 : Int) ≤ 10 + 2 * (st9 13).toInt := by have hI := hI9; obtain ⟨⟨hf3a, hf3b⟩, ⟨hf5a, hf5b⟩, ⟨hf6a, hf6b⟩, ⟨hf9a, hf9b⟩, ⟨hf13a, hf13b⟩, ⟨hf15a, hf15b⟩, ⟨hf17a, hf17b⟩, ⟨hf25a, hf25b⟩, ⟨hf26a, hf26b⟩, ⟨hf27a, hf27b⟩, ⟨hf28a, hf28b⟩, ⟨hf37a, hf37b⟩, hR4, hR7, hR23, hR32, hR33, hPI, hN⟩ := hI; exact hN.1
  have hb9 : (st9 13).toInt ≤ 65536 := by have hI := hI9; obtain ⟨⟨hf3a, hf3b⟩, ⟨hf5a, hf5b⟩, ⟨hf6a, hf6b⟩, ⟨hf9a, hf9b⟩, ⟨hf13a, hf13b⟩, ⟨hf15a, hf15b⟩, ⟨hf17a, hf17b⟩, ⟨hf25a, hf25b⟩, ⟨hf26a, hf26b⟩, ⟨hf27a, hf27b⟩, ⟨hf28a, hf28b⟩, ⟨hf37a, hf37b⟩, hR4, hR7, hR23, hR32, hR33, hPI, hN⟩ := hI; exact hf13b
  rw [ht] at hP9 hs1 hs2
  have hdj9 := dj_new hPY hdj hD9
  have hPY := dj_keep hPY hdj hk1
  have hdj := hdj9
  have hDZ := hD9.weaken (fun _ _ _ h => hFc _ h)
  have hPZ := hP9
  have hcE : cap9 = 0 → (rU c 99 e9) 99 = e0 := fun h => (show e9 = e0 from (hc9 h).2.trans (hcE (hc9 h).1))
  obtain ⟨K1, hK1⟩ : ∃ k9 : Nat, (k9 : Int) = (K0 : Int) + 3 + 3 * ((st9 13).toInt - (st 13).toInt) := ⟨((K0 : Int) + 3 + 3 * ((st9 13).toInt - (st 13).toInt)).toNat, by omega⟩
  obtain ⟨M1, hM1⟩ : ∃ m9 : Nat, (m9 : Int) = (M0 : Int) + 18 + 29 * ((st9 13).toInt - (st 13).toInt) + 4 * ((cap9 : Int) - (cap : Int)) := ⟨((M0 : Int) + 18 + 29 * ((st9 13).toInt - (st 13).toInt) + 4 * ((cap9 : Int) - (cap : Int))).toNat, by omega⟩
  refine W_tight (k' := K1) (m' := M1) (by omega) (by omega) ?_
  clear hz1 hk1 hvm hs1 hs2 hu1 hu2 hP9 hD9 hdj9 hFc
  subst ht
  generalize t.heap = H at hPZ hPY hS ⊢
  refine lv_topi (fun r er9 => ?_)
  clear er9
  refine lv_istore (lv' := [(5, .int r), (4, .int i), (3, .ref oa), (2, .ref o), (1, .ref (c 100)), (0, .ref b)]) hx hb dL_law_1030 hl (by decide) rfl (fun ls hl => ?_)
  refine lv_aload_n hx hb dL_law_1032 rfl (lv_at hl 3 rfl) ?_
  refine lv_aload_n hx hb dL_law_1033 rfl (lv_at hl 5 rfl) ?_
  refine lv_iload hx hb dL_law_1034 (lv_at hl 1 rfl) ?_
  refine lv_iconst (v := 1) hx hb dL_law_1036 (by decide) ?_
  refine lv_iadd hx hb dL_law_1037 ?_
  refine lv_topi (fun v_3 ev_3 => ?_)
  have hv_3 : v_3.toInt = i.toInt + 1 := by rw [ev_3]; exact (iv_add (by omega) (by omega)).trans (by omega)
  clear ev_3
  refine va_sld hx hb hX hbl hbA hS (iv_in (i := v_3) (by omega) (by omega)) dL_law_1038 ?_
  refine lv_topi (fun v_4 ev_4 => ?_)
  clear ev_4
  have hFc := vfree (rw_D hDY : va_D A (rw_W o cR kR stR lgR aiR alR)) hS hA
  refine va_calli (va_runV (As := [.int v_4]) (rest := []) ⟨hx, hb, hml, hown, hts⟩ (v_X9_asked l dC dI o cR kR stR lgR aiR alR v_4 _ (show 1 ≤ (stR 1).toInt from rf1a) (show (stR 1).toInt ≤ 65536 from rf1b) (show 0 ≤ (stR 3).toInt from rf3a) (show (stR 3).toInt ≤ 1 from rf3b) (show 0 ≤ (stR 7).toInt from rf7a) (show (stR 7).toInt ≤ 1 from rf7b) (show 0 ≤ (stR 15).toInt from rf15a) (show (stR 15).toInt ≤ 128 from rf15b)) (cwV 1 hts gL_law_X9_asked rfl rfl rfl (by decide +kernel) ⟨Nat.le_of_ble_eq_true rfl, Nat.le_of_ble_eq_true rfl⟩) ⟨fun a U g mk q => by obtain ⟨q0, q1, qP, qK, qD⟩ := q; exact ⟨q0, q1, qP, va_K.moved (u := U) (U := U.calling g mk a) (Vm.Alike.refl U.vm) qK, qD⟩, va_recv hKR hPY (ci := 11) (q := (RX9, TX9, 38)) rfl (q0 := 0) rfl, fun U hU hW => ⟨rfl, by rw [hU], by rw [hU]; exact hPY, va_K.moved hW.alike hKR, (rw_D hDY).weaken (fun _ _ _ _ => trivial)⟩⟩ rfl rfl hl.1 rfl (lv_room (Nat.le_of_ble_eq_true rfl)) dL_law_1039 ⟨by show K1 + 0 ≤ 601024; omega, by show M1 + 0 ≤ 7293000; omega⟩) hS (fun q _ h => hFc q h) hFc (fun r_5 u t H1 locs ht hvm er_5 hB hz1 hk1 hS => ?_)
  subst er_5
  obtain ⟨x13_5, hP1⟩ := hB
  rw [ht] at hP1
  have hPZ := dj_keep hPZ (dj_sym (rw_dj (lg' := lgR) (st' := stR) (ai' := aiR) (al' := alR) hdj)) hk1
  clear hPY hz1 hk1 hvm hFc
  subst ht
  have hPY := hP1
  clear hP1
  generalize t.heap = H at hPY hPZ hS ⊢
  have hPY : va_P (dC, dI) vwCl (rw_W o cR kR (rU stR 13 x13_5) lgR aiR alR) H := hPY
  refine lv_istore (lv' := [(6, .int r_5), (5, .int r), (4, .int i), (3, .ref oa), (2, .ref o), (1, .ref (c 100)), (0, .ref b)]) hx hb dL_law_1042 hl (by decide) rfl (fun ls hl => ?_)
  refine lv_goto (tgt := 1103) hx hb dL_law_1044 (by decide) ?_
  exact kk e9 st9 lg9 ai9 al9 R9 cap9 num9 f9 (rU stR 13 x13_5) lgR aiR alR _ locs ls K1 M1 ⟨hI9, ⟨⟨rf1a, rf1b⟩, ⟨rf2a, rf2b⟩, ⟨rf3a, rf3b⟩, ⟨rf6a, rf6b⟩, ⟨rf7a, rf7b⟩, ⟨rf9a, rf9b⟩, ⟨rf12a, rf12b⟩, ⟨rf15a, rf15b⟩, ⟨rf16a, rf16b⟩, ⟨rf17a, rf17b⟩, ⟨rf21a, rf21b⟩, ⟨rf22a, rf22b⟩, ⟨rf24a, rf24b⟩, ⟨rf26a, rf26b⟩, ⟨rf30a, rf30b⟩, ⟨rf32a, rf32b⟩, ⟨rf37a, rf37b⟩, rR8, rR25, rR31, rR35⟩, hcE, hPZ, hDZ, hPY, rw_D hDY, rw_dj hdj, hS⟩ (lv_sub hl [2, 3, 4, 5, 6] rfl) hcp9 (show (st 13).toInt ≤ (st9 13).toInt by omega) (show (st9 13).toInt ≤ (st 13).toInt + 16 by omega) (by omega) (by omega)

set_option maxHeartbeats 4000000 in
set_option maxRecDepth 100000 in
theorem lwq_24 {p : Program} {e : Env} {s : State} {m : MethodId} {below : List Frame} {meth : Method} {cM : Code} (l : Launch) (hl0 : l.stackTraces = false) {A : Nat → Prop} {dC : Nat → ClassId} {dI : Nat → Nat → Nat} {b L e0 : Nat} {xs : Nat → Int32} (kc kR : Nat → ClassId) (ko : ClassId) (oa o : Nat) (cR : Nat → Nat) (c : Nat → Nat) (st : Nat → Int32) (lg : Nat → Int64) (ai : Nat → Nat → Int32) (al : Nat → Nat → Int64) (R : va_W) (cap : Nat) (num : Nat → Int32) (fo : Nat → Int64) (stR : Nat → Int32) (lgR : Nat → Int64) (aiR : Nat → Nat → Int32) (alR : Nat → Nat → Int64) (H : Heap) (locs : List Loc) (ls : Array Slot) (i : Int32) (K0 M0 : Nat) (C0 : lwB p s m meth cM b L xs A e0) (hK : va_K (dC, dI) vwCl (cw_T kc) s) (hKo : va_K (dC, dI) vwCl [(ko, .long)] s) (hKR : va_K (dC, dI) vwCl (rw_T kR) s) (hS0 : lwS (dC, dI) A s e0 kc kR ko oa o cR c st lg ai al R cap num fo stR lgR aiR alR H locs) (hl : lv_has ls 8 [(4, .int i), (3, .ref oa), (2, .ref o), (1, .ref (c 100)), (0, .ref b)]) (hi : 1 ≤ i.toInt) (hi2 : i.toInt + 4 < (L : Int)) (hL : L ≤ 2561) (hK0 : K0 + 100 ≤ 601024) (hM0 : M0 + 1200000 ≤ 7293000) (kk : ∀ (e9 : Nat) (st9 : Nat → Int32) (lg9 : Nat → Int64) (ai9 : Nat → Nat → Int32) (al9 : Nat → Nat → Int64) (R9 : va_W) (cap9 : Nat) (num9 : Nat → Int32) (f9 : Nat → Int64) (sR9 : Nat → Int32) (lR9 : Nat → Int64) (aR9 : Nat → Nat → Int32) (bR9 : Nat → Nat → Int64) (H : Heap) (locs : List Loc) (ls : Array Slot) (K9 M9 : Nat), lwS (dC, dI) A s e0 kc kR ko oa o cR (rU c 99 e9) st9 lg9 ai9 al9 R9 cap9 num9 f9 sR9 lR9 aR9 bR9 H locs → lv_has ls 8 [(4, .int i), (3, .ref oa), (2, .ref o), (1, .ref (c 100)), (0, .ref b)] → cap ≤ cap9 → (st 13).toInt ≤ (st9 13).toInt → (st9 13).toInt ≤ (st 13).toInt + 16 → (K9 : Int) ≤ (K0 : Int) + 3 + 3 * ((st9 13).toInt - (st 13).toInt) → (M9 : Int) ≤ (M0 : Int) + 18 + 29 * ((st9 13).toInt - (st 13).toInt) + 4 * ((cap9 : Int) - (cap : Int)) → W p l e room_1 s m #[Value.ref b] below meth cM H locs K9 M9 (lw_Z below #[Value.ref b] s) (F0 m 1103 ls [])) : W p l e room_1 s m #[Value.ref b] below meth cM H locs K0 M0 (lw_Z below #[Value.ref b] s) (F0 m 1047 ls []) := by
  obtain ⟨hx, hb, hr, hml, hown, hts, hX, hbl, hlocks, hA, hA9, hbA, hY⟩ := C0
  obtain ⟨hI, hJ, hcE, hPZ, hDZ, hPY, hDY, hdj, hS⟩ := hS0
  obtain ⟨⟨rf1a, rf1b⟩, ⟨rf2a, rf2b⟩, ⟨rf3a, rf3b⟩, ⟨rf6a, rf6b⟩, ⟨rf7a, rf7b⟩, ⟨rf9a, rf9b⟩, ⟨rf12a, rf12b⟩, ⟨rf15a, rf15b⟩, ⟨rf16a, rf16b⟩, ⟨rf17a, rf17b⟩, ⟨rf21a, rf21b⟩, ⟨rf22a, rf22b⟩, ⟨rf24a, rf24b⟩, ⟨rf26a, rf26b⟩, ⟨rf30a, rf30b⟩, ⟨rf32a, rf32b⟩, ⟨rf37a, rf37b⟩, rR8, rR25, rR31, rR35⟩ := hJ
  have hG := hY.1
  have hGW := hG.1
  have z_1 : (1 : Int32).toInt = 1 := by decide
  refine lv_aload_n hx hb dL_law_1047 rfl (lv_at hl 3 rfl) ?_
  refine lv_aload_n hx hb dL_law_1048 rfl (lv_at hl 4 rfl) ?_
  refine lv_iload hx hb dL_law_1049 (lv_at hl 0 rfl) ?_
  refine lv_iconst (v := 1) hx hb dL_law_1051 (by decide) ?_
  refine lv_iadd hx hb dL_law_1052 ?_
  refine lv_topi (fun v_1 ev_1 => ?_)
  have rg1 := iv_rng i
  have hv_1 : v_1.toInt = i.toInt + 1 := by rw [ev_1]; exact (iv_add (by omega) (by omega)).trans (by omega)
  clear ev_1
  refine va_sld hx hb hX hbl hbA hS (iv_in (i := v_1) (by omega) (by omega)) dL_law_1053 ?_
  refine lv_topi (fun v_2 ev_2 => ?_)
  clear ev_2
  refine lv_aload_n hx hb dL_law_1054 rfl (lv_at hl 1 rfl) ?_
  refine W_read (fun hu1 hu2 => ?_)
  have hFc := vfree hDZ hS hA
  refine va_calli (vx_runSW (As := [.ref (c 100), .int v_2, .ref oa]) (rest := []) ⟨hx, hb, hml, hown, hts⟩ (h_L_mend l hl0 dC dI c kc st lg ai al R cap num oa ko fo v_2 _ _ hI) (vx_cwSW 3 hts gL_law_L_mend rfl rfl rfl (by decide +kernel) ⟨Nat.le_of_ble_eq_true rfl, Nat.le_of_ble_eq_true rfl⟩) ⟨fun a U g mk q => by obtain ⟨q0, q1, q2, qP, qK, qO, qD, qG⟩ := q; exact ⟨q0, q1, q2, qP, va_K.moved (u := U) (U := U.calling g mk a) (Vm.Alike.refl U.vm) qK, va_K.moved (u := U) (U := U.calling g mk a) (Vm.Alike.refl U.vm) qO, qD, qG.same rfl rfl⟩, fun U hU hW => ⟨rfl, by rw [hU], by rw [hU], by rw [hU]; exact hPZ, va_K.moved hW.alike hK, va_K.moved hW.alike hKo, hDZ.weaken (fun _ _ _ _ => trivial), hY.go hW hU hS hFc (fun h => ⟨rfl, hcE h⟩)⟩⟩ rfl rfl hl.1 rfl (lv_room (Nat.le_of_ble_eq_true rfl)) dL_law_1055 ⟨by show K0 + 8 ≤ 601024; omega, by show M0 + 640100 ≤ 7293000; omega⟩) hS (fun q _ h => hFc q h) hFc (fun r u t H1 locs ht hvm er hB hz1 hk1 hS => ?_)
  subst er
  obtain ⟨e9, st9, lg9, ai9, al9, R9, cap9, num9, f9, hI9, hc9, hcp9, hn1, hn2, hs1, hs2, hP9, hD9⟩ := hB
  have hN9 : (cap9 : Int) ≤ 10 + 2 * (st9 13).toInt := by have hI := hI9; obtain ⟨⟨hf3a, hf3b⟩, ⟨hf5a, hf5b⟩, ⟨hf6a, hf6b⟩, ⟨hf9a, hf9b⟩, ⟨hf13a, hf13b⟩, ⟨hf15a, hf15b⟩, ⟨hf17a, hf17b⟩, ⟨hf25a, hf25b⟩, ⟨hf26a, hf26b⟩, ⟨hf27a, hf27b⟩, ⟨hf28a, hf28b⟩, ⟨hf37a, hf37b⟩, hR4, hR7, hR23, hR32, hR33, hPI, hN⟩ := hI; exact hN.1
  have hb9 : (st9 13).toInt ≤ 65536 := by have hI := hI9; obtain ⟨⟨hf3a, hf3b⟩, ⟨hf5a, hf5b⟩, ⟨hf6a, hf6b⟩, ⟨hf9a, hf9b⟩, ⟨hf13a, hf13b⟩, ⟨hf15a, hf15b⟩, ⟨hf17a, hf17b⟩, ⟨hf25a, hf25b⟩, ⟨hf26a, hf26b⟩, ⟨hf27a, hf27b⟩, ⟨hf28a, hf28b⟩, ⟨hf37a, hf37b⟩, hR4, hR7, hR23, hR32, hR33, hPI, hN⟩ := hI; exact hf13b
  rw [ht] at hP9 hs1 hs2
  have hdj9 := dj_new hPY hdj hD9
  have hPY := dj_keep hPY hdj hk1
  have hdj := hdj9
  have hDZ := hD9.weaken (fun _ _ _ h => hFc _ h)
  have hPZ := hP9
  have hcE : cap9 = 0 → (rU c 99 e9) 99 = e0 := fun h => (show e9 = e0 from (hc9 h).2.trans (hcE (hc9 h).1))
  obtain ⟨K1, hK1⟩ : ∃ k9 : Nat, (k9 : Int) = (K0 : Int) + 3 + 3 * ((st9 13).toInt - (st 13).toInt) := ⟨((K0 : Int) + 3 + 3 * ((st9 13).toInt - (st 13).toInt)).toNat, by omega⟩
  obtain ⟨M1, hM1⟩ : ∃ m9 : Nat, (m9 : Int) = (M0 : Int) + 18 + 29 * ((st9 13).toInt - (st 13).toInt) + 4 * ((cap9 : Int) - (cap : Int)) := ⟨((M0 : Int) + 18 + 29 * ((st9 13).toInt - (st 13).toInt) + 4 * ((cap9 : Int) - (cap : Int))).toNat, by omega⟩
  refine W_tight (k' := K1) (m' := M1) (by omega) (by omega) ?_
  clear hz1 hk1 hvm hs1 hs2 hu1 hu2 hP9 hD9 hdj9 hFc
  subst ht
  generalize t.heap = H at hPZ hPY hS ⊢
  refine lv_topi (fun r er9 => ?_)
  clear er9
  refine lv_istore (lv' := [(5, .int r), (4, .int i), (3, .ref oa), (2, .ref o), (1, .ref (c 100)), (0, .ref b)]) hx hb dL_law_1058 hl (by decide) rfl (fun ls hl => ?_)
  refine lv_aload_n hx hb dL_law_1060 rfl (lv_at hl 3 rfl) ?_
  refine lv_aload_n hx hb dL_law_1061 rfl (lv_at hl 5 rfl) ?_
  refine lv_iload hx hb dL_law_1062 (lv_at hl 1 rfl) ?_
  refine lv_iconst (v := 1) hx hb dL_law_1064 (by decide) ?_
  refine lv_iadd hx hb dL_law_1065 ?_
  refine lv_topi (fun v_3 ev_3 => ?_)
  have hv_3 : v_3.toInt = i.toInt + 1 := by rw [ev_3]; exact (iv_add (by omega) (by omega)).trans (by omega)
  clear ev_3
  refine va_sld hx hb hX hbl hbA hS (iv_in (i := v_3) (by omega) (by omega)) dL_law_1066 ?_
  refine lv_topi (fun v_4 ev_4 => ?_)
  clear ev_4
  have hFc := vfree (rw_D hDY : va_D A (rw_W o cR kR stR lgR aiR alR)) hS hA
  refine va_calli (va_runV (As := [.int v_4]) (rest := []) ⟨hx, hb, hml, hown, hts⟩ (v_X9_mend l dC dI o cR kR stR lgR aiR alR v_4 _ (show 1 ≤ (stR 1).toInt from rf1a) (show (stR 1).toInt ≤ 65536 from rf1b) (show 0 ≤ (stR 3).toInt from rf3a) (show (stR 3).toInt ≤ 1 from rf3b) (show 0 ≤ (stR 6).toInt from rf6a) (show (stR 6).toInt ≤ 1 from rf6b) (show 0 ≤ (stR 7).toInt from rf7a) (show (stR 7).toInt ≤ 1 from rf7b) (show 0 ≤ (stR 9).toInt from rf9a) (show (stR 9).toInt ≤ 400 from rf9b) (show 0 ≤ (stR 12).toInt from rf12a) (show (stR 12).toInt ≤ 8 from rf12b) (show 0 ≤ (stR 15).toInt from rf15a) (show (stR 15).toInt ≤ 128 from rf15b) (show aR (aiR 8) 400 (0) 255 from rR8)) (cwV 1 hts gL_law_X9_mend rfl rfl rfl (by decide +kernel) ⟨Nat.le_of_ble_eq_true rfl, Nat.le_of_ble_eq_true rfl⟩) ⟨fun a U g mk q => by obtain ⟨q0, q1, qP, qK, qD⟩ := q; exact ⟨q0, q1, qP, va_K.moved (u := U) (U := U.calling g mk a) (Vm.Alike.refl U.vm) qK, qD⟩, va_recv hKR hPY (ci := 11) (q := (RX9, TX9, 38)) rfl (q0 := 0) rfl, fun U hU hW => ⟨rfl, by rw [hU], by rw [hU]; exact hPY, va_K.moved hW.alike hKR, (rw_D hDY).weaken (fun _ _ _ _ => trivial)⟩⟩ rfl rfl hl.1 rfl (lv_room (Nat.le_of_ble_eq_true rfl)) dL_law_1067 ⟨by show K1 + 0 ≤ 601024; omega, by show M1 + 0 ≤ 7293000; omega⟩) hS (fun q _ h => hFc q h) hFc (fun r_5 u t H1 locs ht hvm er_5 hB hz1 hk1 hS => ?_)
  subst er_5
  obtain ⟨x3_5, x4_5, x5_5, x6_5, x9_5, x12_5, x13_5, x15_5, f0_5, f14_5, y90_5, y91_5, y92_5, y93_5, y94_5, y95_5, y96_5, y97_5, y98_5, y99_5, hP1⟩ := hB
  rw [ht] at hP1
  have hPZ := dj_keep hPZ (dj_sym (rw_dj (lg' := lgR) (st' := stR) (ai' := aiR) (al' := alR) hdj)) hk1
  clear hPY hz1 hk1 hvm hFc
  subst ht
  have hPY := hP1
  clear hP1
  generalize t.heap = H at hPY hPZ hS ⊢
  have hPY : va_P (dC, dI) vwCl (rw_W o cR kR (rU (rU (rU (rU (rU (rU (rU (rU stR 3 x3_5) 4 x4_5) 5 x5_5) 6 x6_5) 9 x9_5) 12 x12_5) 13 x13_5) 15 x15_5) lgR (rU (rU aiR 0 f0_5) 14 f14_5) alR) H := hPY
  have rf3a : 0 ≤ x3_5.toInt := y90_5
  have rf3b : x3_5.toInt ≤ 1 := y91_5
  have rf6a : 0 ≤ x6_5.toInt := y92_5
  have rf6b : x6_5.toInt ≤ 1 := y93_5
  have rf9a : 0 ≤ x9_5.toInt := y94_5
  have rf9b : x9_5.toInt ≤ 400 := y95_5
  have rf12a : 0 ≤ x12_5.toInt := y96_5
  have rf12b : x12_5.toInt ≤ 8 := y97_5
  have rf15a : 0 ≤ x15_5.toInt := y98_5
  have rf15b : x15_5.toInt ≤ 128 := y99_5
  refine lv_istore (lv' := [(6, .int r_5), (5, .int r), (4, .int i), (3, .ref oa), (2, .ref o), (1, .ref (c 100)), (0, .ref b)]) hx hb dL_law_1070 hl (by decide) rfl (fun ls hl => ?_)
  refine lv_goto (tgt := 1103) hx hb dL_law_1072 (by decide) ?_
  exact kk e9 st9 lg9 ai9 al9 R9 cap9 num9 f9 (rU (rU (rU (rU (rU (rU (rU (rU stR 3 x3_5) 4 x4_5) 5 x5_5) 6 x6_5) 9 x9_5) 12 x12_5) 13 x13_5) 15 x15_5) lgR (rU (rU aiR 0 f0_5) 14 f14_5) alR _ locs ls K1 M1 ⟨hI9, ⟨⟨rf1a, rf1b⟩, ⟨rf2a, rf2b⟩, ⟨rf3a, rf3b⟩, ⟨rf6a, rf6b⟩, ⟨rf7a, rf7b⟩, ⟨rf9a, rf9b⟩, ⟨rf12a, rf12b⟩, ⟨rf15a, rf15b⟩, ⟨rf16a, rf16b⟩, ⟨rf17a, rf17b⟩, ⟨rf21a, rf21b⟩, ⟨rf22a, rf22b⟩, ⟨rf24a, rf24b⟩, ⟨rf26a, rf26b⟩, ⟨rf30a, rf30b⟩, ⟨rf32a, rf32b⟩, ⟨rf37a, rf37b⟩, rR8, rR25, rR31, rR35⟩, hcE, hPZ, hDZ, hPY, rw_D hDY, rw_dj hdj, hS⟩ (lv_sub hl [2, 3, 4, 5, 6] rfl) hcp9 (show (st 13).toInt ≤ (st9 13).toInt by omega) (show (st9 13).toInt ≤ (st 13).toInt + 16 by omega) (by omega) (by omega)
