set_option maxHeartbeats 4000000 in
set_option maxRecDepth 100000 in
theorem lwq_25 {p : Program} {e : Env} {s : State} {m : MethodId} {below : List Frame} {meth : Method} {cM : Code} (l : Launch) (hl0 : l.stackTraces = false) {A : Nat → Prop} {dC : Nat → ClassId} {dI : Nat → Nat → Nat} {b L e0 : Nat} {xs : Nat → Int32} (kc kR : Nat → ClassId) (ko : ClassId) (oa o : Nat) (cR : Nat → Nat) (c : Nat → Nat) (st : Nat → Int32) (lg : Nat → Int64) (ai : Nat → Nat → Int32) (al : Nat → Nat → Int64) (R : va_W) (cap : Nat) (num : Nat → Int32) (fo : Nat → Int64) (stR : Nat → Int32) (lgR : Nat → Int64) (aiR : Nat → Nat → Int32) (alR : Nat → Nat → Int64) (H : Heap) (locs : List Loc) (ls : Array Slot) (i : Int32) (K0 M0 : Nat) (C0 : lwB p s m meth cM b L xs A e0) (hK : va_K (dC, dI) vwCl (cw_T kc) s) (hKo : va_K (dC, dI) vwCl [(ko, .long)] s) (hKR : va_K (dC, dI) vwCl (rw_T kR) s) (hS0 : lwS (dC, dI) A s e0 kc kR ko oa o cR c st lg ai al R cap num fo stR lgR aiR alR H locs) (hl : lv_has ls 8 [(4, .int i), (3, .ref oa), (2, .ref o), (1, .ref (c 100)), (0, .ref b)]) (hi : 1 ≤ i.toInt) (hi2 : i.toInt + 4 < (L : Int)) (hL : L ≤ 2561) (hK0 : K0 + 100 ≤ 601024) (hM0 : M0 + 1200000 ≤ 7293000) (kk : ∀ (e9 : Nat) (st9 : Nat → Int32) (lg9 : Nat → Int64) (ai9 : Nat → Nat → Int32) (al9 : Nat → Nat → Int64) (R9 : va_W) (cap9 : Nat) (num9 : Nat → Int32) (f9 : Nat → Int64) (sR9 : Nat → Int32) (lR9 : Nat → Int64) (aR9 : Nat → Nat → Int32) (bR9 : Nat → Nat → Int64) (H : Heap) (locs : List Loc) (ls : Array Slot) (K9 M9 : Nat), lwS (dC, dI) A s e0 kc kR ko oa o cR (rU c 99 e9) st9 lg9 ai9 al9 R9 cap9 num9 f9 sR9 lR9 aR9 bR9 H locs → lv_has ls 8 [(4, .int i), (3, .ref oa), (2, .ref o), (1, .ref (c 100)), (0, .ref b)] → cap ≤ cap9 → (st 13).toInt ≤ (st9 13).toInt → (st9 13).toInt ≤ (st 13).toInt + 16 → (K9 : Int) ≤ (K0 : Int) + 3 + 3 * ((st9 13).toInt - (st 13).toInt) → (M9 : Int) ≤ (M0 : Int) + 18 + 29 * ((st9 13).toInt - (st 13).toInt) + 4 * ((cap9 : Int) - (cap : Int)) → W p l e room_1 s m #[Value.ref b] below meth cM H locs K9 M9 (lw_Z below #[Value.ref b] s) (F0 m 1103 ls [])) : W p l e room_1 s m #[Value.ref b] below meth cM H locs K0 M0 (lw_Z below #[Value.ref b] s) (F0 m 1075 ls []) := by
  obtain ⟨hx, hb, hr, hml, hown, hts, hX, hbl, hlocks, hA, hA9, hbA, hY⟩ := C0
  obtain ⟨hI, hJ, hcE, hPZ, hDZ, hPY, hDY, hdj, hS⟩ := hS0
  obtain ⟨⟨rf1a, rf1b⟩, ⟨rf2a, rf2b⟩, ⟨rf3a, rf3b⟩, ⟨rf6a, rf6b⟩, ⟨rf7a, rf7b⟩, ⟨rf9a, rf9b⟩, ⟨rf12a, rf12b⟩, ⟨rf15a, rf15b⟩, ⟨rf16a, rf16b⟩, ⟨rf17a, rf17b⟩, ⟨rf21a, rf21b⟩, ⟨rf22a, rf22b⟩, ⟨rf24a, rf24b⟩, ⟨rf26a, rf26b⟩, ⟨rf30a, rf30b⟩, ⟨rf32a, rf32b⟩, ⟨rf37a, rf37b⟩, rR8, rR25, rR31, rR35⟩ := hJ
  have hG := hY.1
  have hGW := hG.1
  have z_1 : (1 : Int32).toInt = 1 := by decide
  refine lv_aload_n hx hb dL_law_1075 rfl (lv_at hl 3 rfl) ?_
  refine lv_aload_n hx hb dL_law_1076 rfl (lv_at hl 4 rfl) ?_
  refine lv_iload hx hb dL_law_1077 (lv_at hl 0 rfl) ?_
  refine lv_iconst (v := 1) hx hb dL_law_1079 (by decide) ?_
  refine lv_iadd hx hb dL_law_1080 ?_
  refine lv_topi (fun v_1 ev_1 => ?_)
  have rg1 := iv_rng i
  have hv_1 : v_1.toInt = i.toInt + 1 := by rw [ev_1]; exact (iv_add (by omega) (by omega)).trans (by omega)
  clear ev_1
  refine va_sld hx hb hX hbl hbA hS (iv_in (i := v_1) (by omega) (by omega)) dL_law_1081 ?_
  refine lv_topi (fun v_2 ev_2 => ?_)
  clear ev_2
  refine lv_aload_n hx hb dL_law_1082 rfl (lv_at hl 1 rfl) ?_
  refine W_read (fun hu1 hu2 => ?_)
  have hFc := vfree hDZ hS hA
  refine va_calli (vx_runSW (As := [.ref (c 100), .int v_2, .ref oa]) (rest := []) ⟨hx, hb, hml, hown, hts⟩ (h_L_told l hl0 dC dI c kc st lg ai al R cap num oa ko fo v_2 _ _ hI) (vx_cwSW 3 hts gL_law_L_told rfl rfl rfl (by decide +kernel) ⟨Nat.le_of_ble_eq_true rfl, Nat.le_of_ble_eq_true rfl⟩) ⟨fun a U g mk q => by obtain ⟨q0, q1, q2, qP, qK, qO, qD, qG⟩ := q; exact ⟨q0, q1, q2, qP, va_K.moved (u := U) (U := U.calling g mk a) (Vm.Alike.refl U.vm) qK, va_K.moved (u := U) (U := U.calling g mk a) (Vm.Alike.refl U.vm) qO, qD, qG.same rfl rfl⟩, fun U hU hW => ⟨rfl, by rw [hU], by rw [hU], by rw [hU]; exact hPZ, va_K.moved hW.alike hK, va_K.moved hW.alike hKo, hDZ.weaken (fun _ _ _ _ => trivial), hY.go hW hU hS hFc (fun h => ⟨rfl, hcE h⟩)⟩⟩ rfl rfl hl.1 rfl (lv_room (Nat.le_of_ble_eq_true rfl)) dL_law_1083 ⟨by show K0 + 1 ≤ 601024; omega, by show M0 + 6 ≤ 7293000; omega⟩) hS (fun q _ h => hFc q h) hFc (fun r u t H1 locs ht hvm er hB hz1 hk1 hS => ?_)
  subst er
  obtain ⟨e9, st9, lg9, ai9, al9, R9, cap9, num9, f9, hI9, hc9, hcp9, hn1, hn2, hs1, hs2, hP9, hD9⟩ := hB
  have hN9 : (cap9 : Int) ≤ 10 + 2 * (st9 13).toInt := by have hI := hI9; obtain ⟨⟨hf3a, hf3b⟩, ⟨hf5a, hf5b⟩, ⟨hf6a, hf6b⟩, ⟨hf9a, hf9b⟩, ⟨hf13a, hf13b⟩, ⟨hf15a, hf15b⟩, ⟨hf17a, hf17b⟩, ⟨hf25a, hf25b⟩, ⟨hf26a, hf26b⟩, ⟨hf27a, hf27b⟩, ⟨hf28a, hf28b⟩, ⟨hf37a, hf37b⟩, hR4, hR7, hR23, hR32, hR33, hPI, hN⟩ := hI; exact hN.1
  have hb9 : (st9 13).toInt ≤ 65536 := by have hI := hI9; obtain ⟨⟨hf3a, hf3b⟩, ⟨hf5a, hf5b⟩, ⟨hf6a, hf6b⟩, ⟨hf9a, hf9b⟩, ⟨hf13a, hf13b⟩, ⟨hf15a, hf15b⟩, ⟨hf17a, hf17b⟩, ⟨hf25a, hf25b⟩, ⟨hf26a, hf26b⟩, ⟨hf27a, hf27b⟩, ⟨hf28a, hf28b⟩, ⟨hf37a, hf37b⟩, hR4, hR7, hR23, hR32, hR33, hPI, hN⟩ := hI; exact hf13b
  rw [ht] at hP9 hs1 hs2
  have hdj9 := dj_new hPY hdj hD9
  have hPY := dj_keep hPY hdj hk1
  have hdj := hdj9
  have hDZ := hD9.weaken (fun _ _ _ h => hFc _ h)
  have hPZ := hP9
  have hcE : cap9 = 0 → (rU c 99 e9) 99 = e0 := fun h => (show e9 = e0 from (hc9 h).2.trans (hcE (hc9 h).1))
  obtain ⟨K1, hK1⟩ : ∃ k9 : Nat, (k9 : Int) = (K0 : Int) + 3 + 3 * ((st9 13).toInt - (st 13).toInt) := ⟨((K0 : Int) + 3 + 3 * ((st9 13).toInt - (st 13).toInt)).toNat, by omega⟩
  obtain ⟨M1, hM1⟩ : ∃ m9 : Nat, (m9 : Int) = (M0 : Int) + 18 + 29 * ((st9 13).toInt - (st 13).toInt) + 4 * ((cap9 : Int) - (cap : Int)) := ⟨((M0 : Int) + 18 + 29 * ((st9 13).toInt - (st 13).toInt) + 4 * ((cap9 : Int) - (cap : Int))).toNat, by omega⟩
  refine W_tight (k' := K1) (m' := M1) (by omega) (by omega) ?_
  clear hz1 hk1 hvm hs1 hs2 hu1 hu2 hP9 hD9 hdj9 hFc
  subst ht
  generalize t.heap = H at hPZ hPY hS ⊢
  refine lv_topi (fun r er9 => ?_)
  clear er9
  refine lv_istore (lv' := [(5, .int r), (4, .int i), (3, .ref oa), (2, .ref o), (1, .ref (c 100)), (0, .ref b)]) hx hb dL_law_1086 hl (by decide) rfl (fun ls hl => ?_)
  refine lv_aload_n hx hb dL_law_1088 rfl (lv_at hl 3 rfl) ?_
  refine lv_aload_n hx hb dL_law_1089 rfl (lv_at hl 5 rfl) ?_
  refine lv_iload hx hb dL_law_1090 (lv_at hl 1 rfl) ?_
  refine lv_iconst (v := 1) hx hb dL_law_1092 (by decide) ?_
  refine lv_iadd hx hb dL_law_1093 ?_
  refine lv_topi (fun v_3 ev_3 => ?_)
  have hv_3 : v_3.toInt = i.toInt + 1 := by rw [ev_3]; exact (iv_add (by omega) (by omega)).trans (by omega)
  clear ev_3
  refine va_sld hx hb hX hbl hbA hS (iv_in (i := v_3) (by omega) (by omega)) dL_law_1094 ?_
  refine lv_topi (fun v_4 ev_4 => ?_)
  clear ev_4
  have hFc := vfree (rw_D hDY : va_D A (rw_W o cR kR stR lgR aiR alR)) hS hA
  refine va_calli (va_runV (As := [.int v_4]) (rest := []) ⟨hx, hb, hml, hown, hts⟩ (v_X9_told l dC dI o cR kR stR lgR aiR alR v_4 _ (show 1 ≤ (stR 1).toInt from rf1a) (show (stR 1).toInt ≤ 65536 from rf1b) (show 0 ≤ (stR 3).toInt from rf3a) (show (stR 3).toInt ≤ 1 from rf3b) (show 0 ≤ (stR 7).toInt from rf7a) (show (stR 7).toInt ≤ 1 from rf7b) (show 0 ≤ (stR 12).toInt from rf12a) (show (stR 12).toInt ≤ 8 from rf12b) (show 0 ≤ (stR 15).toInt from rf15a) (show (stR 15).toInt ≤ 128 from rf15b)) (cwV 1 hts gL_law_X9_told rfl rfl rfl (by decide +kernel) ⟨Nat.le_of_ble_eq_true rfl, Nat.le_of_ble_eq_true rfl⟩) ⟨fun a U g mk q => by obtain ⟨q0, q1, qP, qK, qD⟩ := q; exact ⟨q0, q1, qP, va_K.moved (u := U) (U := U.calling g mk a) (Vm.Alike.refl U.vm) qK, qD⟩, va_recv hKR hPY (ci := 11) (q := (RX9, TX9, 38)) rfl (q0 := 0) rfl, fun U hU hW => ⟨rfl, by rw [hU], by rw [hU]; exact hPY, va_K.moved hW.alike hKR, (rw_D hDY).weaken (fun _ _ _ _ => trivial)⟩⟩ rfl rfl hl.1 rfl (lv_room (Nat.le_of_ble_eq_true rfl)) dL_law_1095 ⟨by show K1 + 0 ≤ 601024; omega, by show M1 + 0 ≤ 7293000; omega⟩) hS (fun q _ h => hFc q h) hFc (fun r_5 u t H1 locs ht hvm er_5 hB hz1 hk1 hS => ?_)
  subst er_5
  obtain ⟨x13_5, hP1⟩ := hB
  rw [ht] at hP1
  have hPZ := dj_keep hPZ (dj_sym (rw_dj (lg' := lgR) (st' := stR) (ai' := aiR) (al' := alR) hdj)) hk1
  clear hPY hz1 hk1 hvm hFc
  subst ht
  have hPY := hP1
  clear hP1
  generalize t.heap = H at hPY hPZ hS ⊢
  have hPY : va_P (dC, dI) vwCl (rw_W o cR kR (rU stR 13 x13_5) lgR aiR alR) H := hPY
  refine lv_istore (lv' := [(6, .int r_5), (5, .int r), (4, .int i), (3, .ref oa), (2, .ref o), (1, .ref (c 100)), (0, .ref b)]) hx hb dL_law_1098 hl (by decide) rfl (fun ls hl => ?_)
  refine lv_goto (tgt := 1103) hx hb dL_law_1100 (by decide) ?_
  exact kk e9 st9 lg9 ai9 al9 R9 cap9 num9 f9 (rU stR 13 x13_5) lgR aiR alR _ locs ls K1 M1 ⟨hI9, ⟨⟨rf1a, rf1b⟩, ⟨rf2a, rf2b⟩, ⟨rf3a, rf3b⟩, ⟨rf6a, rf6b⟩, ⟨rf7a, rf7b⟩, ⟨rf9a, rf9b⟩, ⟨rf12a, rf12b⟩, ⟨rf15a, rf15b⟩, ⟨rf16a, rf16b⟩, ⟨rf17a, rf17b⟩, ⟨rf21a, rf21b⟩, ⟨rf22a, rf22b⟩, ⟨rf24a, rf24b⟩, ⟨rf26a, rf26b⟩, ⟨rf30a, rf30b⟩, ⟨rf32a, rf32b⟩, ⟨rf37a, rf37b⟩, rR8, rR25, rR31, rR35⟩, hcE, hPZ, hDZ, hPY, rw_D hDY, rw_dj hdj, hS⟩ (lv_sub hl [2, 3, 4, 5, 6] rfl) hcp9 (show (st 13).toInt ≤ (st9 13).toInt by omega) (show (st9 13).toInt ≤ (st 13).toInt + 16 by omega) (by omega) (by omega)
