set_option maxHeartbeats 4000000 in
set_option maxRecDepth 100000 in
theorem lwq_0 {p : Program} {e : Env} {s : State} {m : MethodId} {below : List Frame} {meth : Method} {cM : Code} (l : Launch) (hl0 : l.stackTraces = false) {A : Nat → Prop} {dC : Nat → ClassId} {dI : Nat → Nat → Nat} {b L e0 : Nat} {xs : Nat → Int32} (kc kR : Nat → ClassId) (ko : ClassId) (oa o : Nat) (cR : Nat → Nat) (c : Nat → Nat) (st : Nat → Int32) (lg : Nat → Int64) (ai : Nat → Nat → Int32) (al : Nat → Nat → Int64) (R : va_W) (cap : Nat) (num : Nat → Int32) (fo : Nat → Int64) (stR : Nat → Int32) (lgR : Nat → Int64) (aiR : Nat → Nat → Int32) (alR : Nat → Nat → Int64) (H : Heap) (locs : List Loc) (ls : Array Slot) (i : Int32) (K0 M0 : Nat) (C0 : lwB p s m meth cM b L xs A e0) (hK : va_K (dC, dI) vwCl (cw_T kc) s) (hKo : va_K (dC, dI) vwCl [(ko, .long)] s) (hKR : va_K (dC, dI) vwCl (rw_T kR) s) (hS0 : lwS (dC, dI) A s e0 kc kR ko oa o cR c st lg ai al R cap num fo stR lgR aiR alR H locs) (hl : lv_has ls 8 [(4, .int i), (3, .ref oa), (2, .ref o), (1, .ref (c 100)), (0, .ref b)]) (hi : 1 ≤ i.toInt) (hi2 : i.toInt + 4 < (L : Int)) (hL : L ≤ 2561) (hK0 : K0 + 100 ≤ 601024) (hM0 : M0 + 1200000 ≤ 7293000) (kk : ∀ (e9 : Nat) (st9 : Nat → Int32) (lg9 : Nat → Int64) (ai9 : Nat → Nat → Int32) (al9 : Nat → Nat → Int64) (R9 : va_W) (cap9 : Nat) (num9 : Nat → Int32) (f9 : Nat → Int64) (sR9 : Nat → Int32) (lR9 : Nat → Int64) (aR9 : Nat → Nat → Int32) (bR9 : Nat → Nat → Int64) (H : Heap) (locs : List Loc) (ls : Array Slot) (K9 M9 : Nat), lwS (dC, dI) A s e0 kc kR ko oa o cR (rU c 99 e9) st9 lg9 ai9 al9 R9 cap9 num9 f9 sR9 lR9 aR9 bR9 H locs → lv_has ls 8 [(4, .int i), (3, .ref oa), (2, .ref o), (1, .ref (c 100)), (0, .ref b)] → cap ≤ cap9 → (st 13).toInt ≤ (st9 13).toInt → (st9 13).toInt ≤ (st 13).toInt + 16 → (K9 : Int) ≤ (K0 : Int) + 3 + 3 * ((st9 13).toInt - (st 13).toInt) → (M9 : Int) ≤ (M0 : Int) + 18 + 29 * ((st9 13).toInt - (st 13).toInt) + 4 * ((cap9 : Int) - (cap : Int)) → W p l e room_1 s m #[Value.ref b] below meth cM H locs K9 M9 (lw_Z below #[Value.ref b] s) (F0 m 1103 ls [])) : W p l e room_1 s m #[Value.ref b] below meth cM H locs K0 M0 (lw_Z below #[Value.ref b] s) (F0 m 168 ls []) := by
  obtain ⟨hx, hb, hr, hml, hown, hts, hX, hbl, hlocks, hA, hA9, hbA, hY⟩ := C0
  obtain ⟨hI, hJ, hcE, hPZ, hDZ, hPY, hDY, hdj, hS⟩ := hS0
  obtain ⟨⟨rf1a, rf1b⟩, ⟨rf2a, rf2b⟩, ⟨rf3a, rf3b⟩, ⟨rf6a, rf6b⟩, ⟨rf7a, rf7b⟩, ⟨rf9a, rf9b⟩, ⟨rf12a, rf12b⟩, ⟨rf15a, rf15b⟩, ⟨rf16a, rf16b⟩, ⟨rf17a, rf17b⟩, ⟨rf21a, rf21b⟩, ⟨rf22a, rf22b⟩, ⟨rf24a, rf24b⟩, ⟨rf26a, rf26b⟩, ⟨rf30a, rf30b⟩, ⟨rf32a, rf32b⟩, ⟨rf37a, rf37b⟩, rR8, rR25, rR31, rR35⟩ := hJ
  have hG := hY.1
  have hGW := hG.1
  have z_1 : (1 : Int32).toInt = 1 := by decide
  have z_2 : (2 : Int32).toInt = 2 := by decide
  have z_3 : (3 : Int32).toInt = 3 := by decide
  have z_32 : (32 : Int32).toInt = 32 := by decide
  refine lv_aload_n hx hb dL_law_168 rfl (lv_at hl 3 rfl) ?_
  refine lv_aload_n hx hb dL_law_169 rfl (lv_at hl 4 rfl) ?_
  refine lv_iload hx hb dL_law_170 (lv_at hl 0 rfl) ?_
  refine lv_iconst (v := 1) hx hb dL_law_172 (by decide) ?_
  refine lv_iadd hx hb dL_law_173 ?_
  refine lv_topi (fun v_1 ev_1 => ?_)
  have rg1 := iv_rng i
  have hv_1 : v_1.toInt = i.toInt + 1 := by rw [ev_1]; exact (iv_add (by omega) (by omega)).trans (by omega)
  clear ev_1
  refine va_sld hx hb hX hbl hbA hS (iv_in (i := v_1) (by omega) (by omega)) dL_law_174 ?_
  refine lv_topi (fun v_2 ev_2 => ?_)
  clear ev_2
  refine lv_i2l hx hb dL_law_175 rfl ?_
  refine lv_topl (fun w_3 ew_3 => ?_)
  clear ew_3
  refine lv_bipush (v := 32) hx hb dL_law_176 (by decide) ?_
  refine lv_lshl hx hb dL_law_178 rfl ?_
  refine lv_topl (fun w_4 ew_4 => ?_)
  clear ew_4
  refine lv_aload_n hx hb dL_law_179 rfl (lv_at hl 4 rfl) ?_
  refine lv_iload hx hb dL_law_180 (lv_at hl 0 rfl) ?_
  refine lv_iconst (v := 2) hx hb dL_law_182 (by decide) ?_
  refine lv_iadd hx hb dL_law_183 ?_
  refine lv_topi (fun v_5 ev_5 => ?_)
  have hv_5 : v_5.toInt = i.toInt + 2 := by rw [ev_5]; exact (iv_add (by omega) (by omega)).trans (by omega)
  clear ev_5
  refine va_sld hx hb hX hbl hbA hS (iv_in (i := v_5) (by omega) (by omega)) dL_law_184 ?_
  refine lv_topi (fun v_6 ev_6 => ?_)
  clear ev_6
  refine lv_i2l hx hb dL_law_185 rfl ?_
  refine lv_topl (fun w_7 ew_7 => ?_)
  clear ew_7
  refine lv_ldc2 hx hb hown (hts (.constantLong RL 106 (4294967295)) (by decide +kernel)) dL_law_186 ?_
  refine lv_land hx hb dL_law_189 ?_
  refine lv_topl (fun w_8 ew_8 => ?_)
  clear ew_8
  refine lv_lor hx hb dL_law_190 ?_
  refine lv_topl (fun w_9 ew_9 => ?_)
  clear ew_9
  refine lv_aload_n hx hb dL_law_191 rfl (lv_at hl 4 rfl) ?_
  refine lv_iload hx hb dL_law_192 (lv_at hl 0 rfl) ?_
  refine lv_iconst (v := 3) hx hb dL_law_194 (by decide) ?_
  refine lv_iadd hx hb dL_law_195 ?_
  refine lv_topi (fun v_10 ev_10 => ?_)
  have hv_10 : v_10.toInt = i.toInt + 3 := by rw [ev_10]; exact (iv_add (by omega) (by omega)).trans (by omega)
  clear ev_10
  refine va_sld hx hb hX hbl hbA hS (iv_in (i := v_10) (by omega) (by omega)) dL_law_196 ?_
  refine lv_topi (fun v_11 ev_11 => ?_)
  clear ev_11
  refine lv_aload_n hx hb dL_law_197 rfl (lv_at hl 1 rfl) ?_
  refine W_read (fun hu1 hu2 => ?_)
  have hFc := vfree hDZ hS hA
  refine va_calli (vx_runSW (As := [.ref (c 100), .long w_9, .int v_11, .ref oa]) (rest := []) ⟨hx, hb, hml, hown, hts⟩ (h_L_feed l hl0 dC dI c kc st lg ai al R cap num oa ko fo w_9 v_11 _ _ hI) (vx_cwSW 4 hts gL_law_L_feed rfl rfl rfl (by decide +kernel) ⟨Nat.le_of_ble_eq_true rfl, Nat.le_of_ble_eq_true rfl⟩) ⟨fun a U g mk q => by obtain ⟨q0, q1, q2, qP, qK, qO, qD, qG⟩ := q; exact ⟨q0, q1, q2, qP, va_K.moved (u := U) (U := U.calling g mk a) (Vm.Alike.refl U.vm) qK, va_K.moved (u := U) (U := U.calling g mk a) (Vm.Alike.refl U.vm) qO, qD, qG.same rfl rfl⟩, fun U hU hW => ⟨rfl, by rw [hU], by rw [hU], by rw [hU]; exact hPZ, va_K.moved hW.alike hK, va_K.moved hW.alike hKo, hDZ.weaken (fun _ _ _ _ => trivial), hY.go hW hU hS hFc (fun h => ⟨rfl, hcE h⟩)⟩⟩ rfl rfl hl.1 rfl (lv_room (Nat.le_of_ble_eq_true rfl)) dL_law_198 ⟨by show K0 + 1 ≤ 601024; omega, by show M0 + 6 ≤ 7293000; omega⟩) hS (fun q _ h => hFc q h) hFc (fun r u t H1 locs ht hvm er hB hz1 hk1 hS => ?_)
  subst er
  obtain ⟨e9, st9, lg9, ai9, al9, R9, cap9, num9, f9, hI9, hc9, hcp9, hn1, hn2, hs1, hs2, hP9, hD9⟩ := hB
  have hN9 : (cap9 : Int) ≤ 10 + 2 * (st9 13).toInt := by have hI := hI9; obtain ⟨⟨hf3a, hf3b⟩, ⟨hf5a, hf5b⟩, ⟨hf6a, hf6b⟩, ⟨hf9a, hf9b⟩, ⟨hf13a, hf13b⟩, ⟨hf15a, hf15b⟩, ⟨hf17a, hf17b⟩, ⟨hf25a, hf25b⟩, ⟨hf26a, hf26b⟩, ⟨hf27a, hf27b⟩, ⟨hf28a, hf28b⟩, ⟨hf37a, hf37b⟩, hR4, hR7, hR23, hR32, hR33, hPI, hN⟩ := hI; exact hN.1
  have hb9 : (st9 13).toInt ≤ 65536 := by have hI := hI9; obtain ⟨⟨hf3a, hf3b⟩, ⟨hf5a, hf5b⟩, ⟨hf6a, hf6b⟩, ⟨hf9a, hf9b⟩, ⟨hf13a, hf13b⟩, ⟨hf15a, hf15b⟩, ⟨hf17a, hf17b⟩, ⟨hf25a, hf25b⟩, ⟨hf26a, hf26b⟩, ⟨hf27a, hf27b⟩, ⟨hf28a, hf28b⟩, ⟨hf37a, hf37b⟩, hR4, hR7, hR23, hR32, hR33, hPI, hN⟩ := hI; exact hf13b
  rw [ht] at hP9 hs1 hs2
  have hdj9 := dj_new hPY hdj hD9
  have hPY := dj_keep hPY hdj hk1
  have hdj := hdj9
  have hDZ := hD9.weaken (fun _ _ _ h => hFc _ h)
  have hPZ := hP9
  have hcE : cap9 = 0 → (rU c 99 e9) 99 = e0 := fun h => (show e9 = e0 from (hc9 h).2.trans (hcE (hc9 h).1))
  obtain ⟨K1, hK1⟩ : ∃ k9 : Nat, (k9 : Int) = (K0 : Int) + 3 + 3 * ((st9 13).toInt - (st 13).toInt) := ⟨((K0 : Int) + 3 + 3 * ((st9 13).toInt - (st 13).toInt)).toNat, by omega⟩
  obtain ⟨M1, hM1⟩ : ∃ m9 : Nat, (m9 : Int) = (M0 : Int) + 18 + 29 * ((st9 13).toInt - (st 13).toInt) + 4 * ((cap9 : Int) - (cap : Int)) := ⟨((M0 : Int) + 18 + 29 * ((st9 13).toInt - (st 13).toInt) + 4 * ((cap9 : Int) - (cap : Int))).toNat, by omega⟩
  refine W_tight (k' := K1) (m' := M1) (by omega) (by omega) ?_
  clear hz1 hk1 hvm hs1 hs2 hu1 hu2 hP9 hD9 hdj9 hFc
  subst ht
  generalize t.heap = H at hPZ hPY hS ⊢
  refine lv_topi (fun r er9 => ?_)
  clear er9
  refine lv_istore (lv' := [(5, .int r), (4, .int i), (3, .ref oa), (2, .ref o), (1, .ref (c 100)), (0, .ref b)]) hx hb dL_law_201 hl (by decide) rfl (fun ls hl => ?_)
  refine lv_aload_n hx hb dL_law_203 rfl (lv_at hl 3 rfl) ?_
  refine lv_aload_n hx hb dL_law_204 rfl (lv_at hl 5 rfl) ?_
  refine lv_iload hx hb dL_law_205 (lv_at hl 1 rfl) ?_
  refine lv_iconst (v := 1) hx hb dL_law_207 (by decide) ?_
  refine lv_iadd hx hb dL_law_208 ?_
  refine lv_topi (fun v_12 ev_12 => ?_)
  have hv_12 : v_12.toInt = i.toInt + 1 := by rw [ev_12]; exact (iv_add (by omega) (by omega)).trans (by omega)
  clear ev_12
  refine va_sld hx hb hX hbl hbA hS (iv_in (i := v_12) (by omega) (by omega)) dL_law_209 ?_
  refine lv_topi (fun v_13 ev_13 => ?_)
  clear ev_13
  refine lv_i2l hx hb dL_law_210 rfl ?_
  refine lv_topl (fun w_14 ew_14 => ?_)
  clear ew_14
  refine lv_bipush (v := 32) hx hb dL_law_211 (by decide) ?_
  refine lv_lshl hx hb dL_law_213 rfl ?_
  refine lv_topl (fun w_15 ew_15 => ?_)
  clear ew_15
  refine lv_aload_n hx hb dL_law_214 rfl (lv_at hl 5 rfl) ?_
  refine lv_iload hx hb dL_law_215 (lv_at hl 1 rfl) ?_
  refine lv_iconst (v := 2) hx hb dL_law_217 (by decide) ?_
  refine lv_iadd hx hb dL_law_218 ?_
  refine lv_topi (fun v_16 ev_16 => ?_)
  have hv_16 : v_16.toInt = i.toInt + 2 := by rw [ev_16]; exact (iv_add (by omega) (by omega)).trans (by omega)
  clear ev_16
  refine va_sld hx hb hX hbl hbA hS (iv_in (i := v_16) (by omega) (by omega)) dL_law_219 ?_
  refine lv_topi (fun v_17 ev_17 => ?_)
  clear ev_17
  refine lv_i2l hx hb dL_law_220 rfl ?_
  refine lv_topl (fun w_18 ew_18 => ?_)
  clear ew_18
  refine lv_ldc2 hx hb hown (hts (.constantLong RL 106 (4294967295)) (by decide +kernel)) dL_law_221 ?_
  refine lv_land hx hb dL_law_224 ?_
  refine lv_topl (fun w_19 ew_19 => ?_)
  clear ew_19
  refine lv_lor hx hb dL_law_225 ?_
  refine lv_topl (fun w_20 ew_20 => ?_)
  clear ew_20
  refine lv_aload_n hx hb dL_law_226 rfl (lv_at hl 5 rfl) ?_
  refine lv_iload hx hb dL_law_227 (lv_at hl 1 rfl) ?_
  refine lv_iconst (v := 3) hx hb dL_law_229 (by decide) ?_
  refine lv_iadd hx hb dL_law_230 ?_
  refine lv_topi (fun v_21 ev_21 => ?_)
  have hv_21 : v_21.toInt = i.toInt + 3 := by rw [ev_21]; exact (iv_add (by omega) (by omega)).trans (by omega)
  clear ev_21
  refine va_sld hx hb hX hbl hbA hS (iv_in (i := v_21) (by omega) (by omega)) dL_law_231 ?_
  refine lv_topi (fun v_22 ev_22 => ?_)
  clear ev_22
  have hFc := vfree (rw_D hDY : va_D A (rw_W o cR kR stR lgR aiR alR)) hS hA
  refine va_calli (va_runV (As := [.long w_20, .int v_22]) (rest := []) ⟨hx, hb, hml, hown, hts⟩ (v_X9_feed l dC dI o cR kR stR lgR aiR alR w_20 v_22 _ (show 0 ≤ (stR 9).toInt from rf9a) (show (stR 9).toInt ≤ 400 from rf9b) (show aR (aiR 8) 400 (0) 255 from rR8)) (cwV 2 hts gL_law_X9_feed rfl rfl rfl (by decide +kernel) ⟨Nat.le_of_ble_eq_true rfl, Nat.le_of_ble_eq_true rfl⟩) ⟨fun a U g mk q => by obtain ⟨q0, q1, qP, qK, qD⟩ := q; exact ⟨q0, q1, qP, va_K.moved (u := U) (U := U.calling g mk a) (Vm.Alike.refl U.vm) qK, qD⟩, va_recv hKR hPY (ci := 11) (q := (RX9, TX9, 38)) rfl (q0 := 0) rfl, fun U hU hW => ⟨rfl, by rw [hU], by rw [hU]; exact hPY, va_K.moved hW.alike hKR, (rw_D hDY).weaken (fun _ _ _ _ => trivial)⟩⟩ rfl rfl hl.1 rfl (lv_room (Nat.le_of_ble_eq_true rfl)) dL_law_232 ⟨by show K1 + 0 ≤ 601024; omega, by show M1 + 0 ≤ 7293000; omega⟩) hS (fun q _ h => hFc q h) hFc (fun r_23 u t H1 locs ht hvm er_23 hB hz1 hk1 hS => ?_)
  subst er_23
  obtain ⟨x9_23, x13_23, f8_23, y90_23, y91_23, rR8, hP1⟩ := hB
  rw [ht] at hP1
  have hPZ := dj_keep hPZ (dj_sym (rw_dj (lg' := lgR) (st' := stR) (ai' := aiR) (al' := alR) hdj)) hk1
  clear hPY hz1 hk1 hvm hFc
  subst ht
  have hPY := hP1
  clear hP1
  generalize t.heap = H at hPY hPZ hS ⊢
  have hPY : va_P (dC, dI) vwCl (rw_W o cR kR (rU (rU stR 9 x9_23) 13 x13_23) lgR (rU aiR 8 f8_23) alR) H := hPY
  have rf9a : 0 ≤ x9_23.toInt := y90_23
  have rf9b : x9_23.toInt ≤ 400 := y91_23
  have rR8 : aR f8_23 400 (0) 255 := rR8
  refine lv_istore (lv' := [(6, .int r_23), (5, .int r), (4, .int i), (3, .ref oa), (2, .ref o), (1, .ref (c 100)), (0, .ref b)]) hx hb dL_law_235 hl (by decide) rfl (fun ls hl => ?_)
  refine lv_goto (tgt := 1103) hx hb dL_law_237 (by decide) ?_
  exact kk e9 st9 lg9 ai9 al9 R9 cap9 num9 f9 (rU (rU stR 9 x9_23) 13 x13_23) lgR (rU aiR 8 f8_23) alR _ locs ls K1 M1 ⟨hI9, ⟨⟨rf1a, rf1b⟩, ⟨rf2a, rf2b⟩, ⟨rf3a, rf3b⟩, ⟨rf6a, rf6b⟩, ⟨rf7a, rf7b⟩, ⟨rf9a, rf9b⟩, ⟨rf12a, rf12b⟩, ⟨rf15a, rf15b⟩, ⟨rf16a, rf16b⟩, ⟨rf17a, rf17b⟩, ⟨rf21a, rf21b⟩, ⟨rf22a, rf22b⟩, ⟨rf24a, rf24b⟩, ⟨rf26a, rf26b⟩, ⟨rf30a, rf30b⟩, ⟨rf32a, rf32b⟩, ⟨rf37a, rf37b⟩, rR8, rR25, rR31, rR35⟩, hcE, hPZ, hDZ, hPY, rw_D hDY, rw_dj hdj, hS⟩ (lv_sub hl [2, 3, 4, 5, 6] rfl) hcp9 (show (st 13).toInt ≤ (st9 13).toInt by omega) (show (st9 13).toInt ≤ (st 13).toInt + 16 by omega) (by omega) (by omega)

set_option maxHeartbeats 4000000 in
set_option maxRecDepth 100000 in
theorem lwq_1 {p : Program} {e : Env} {s : State} {m : MethodId} {below : List Frame} {meth : Method} {cM : Code} (l : Launch) (hl0 : l.stackTraces = false) {A : Nat → Prop} {dC : Nat → ClassId} {dI : Nat → Nat → Nat} {b L e0 : Nat} {xs : Nat → Int32} (kc kR : Nat → ClassId) (ko : ClassId) (oa o : Nat) (cR : Nat → Nat) (c : Nat → Nat) (st : Nat → Int32) (lg : Nat → Int64) (ai : Nat → Nat → Int32) (al : Nat → Nat → Int64) (R : va_W) (cap : Nat) (num : Nat → Int32) (fo : Nat → Int64) (stR : Nat → Int32) (lgR : Nat → Int64) (aiR : Nat → Nat → Int32) (alR : Nat → Nat → Int64) (H : Heap) (locs : List Loc) (ls : Array Slot) (i : Int32) (K0 M0 : Nat) (C0 : lwB p s m meth cM b L xs A e0) (hK : va_K (dC, dI) vwCl (cw_T kc) s) (hKo : va_K (dC, dI) vwCl [(ko, .long)] s) (hKR : va_K (dC, dI) vwCl (rw_T kR) s) (hS0 : lwS (dC, dI) A s e0 kc kR ko oa o cR c st lg ai al R cap num fo stR lgR aiR alR H locs) (hl : lv_has ls 8 [(4, .int i), (3, .ref oa), (2, .ref o), (1, .ref (c 100)), (0, .ref b)]) (hi : 1 ≤ i.toInt) (hi2 : i.toInt + 4 < (L : Int)) (hL : L ≤ 2561) (hK0 : K0 + 100 ≤ 601024) (hM0 : M0 + 1200000 ≤ 7293000) (kk : ∀ (e9 : Nat) (st9 : Nat → Int32) (lg9 : Nat → Int64) (ai9 : Nat → Nat → Int32) (al9 : Nat → Nat → Int64) (R9 : va_W) (cap9 : Nat) (num9 : Nat → Int32) (f9 : Nat → Int64) (sR9 : Nat → Int32) (lR9 : Nat → Int64) (aR9 : Nat → Nat → Int32) (bR9 : Nat → Nat → Int64) (H : Heap) (locs : List Loc) (ls : Array Slot) (K9 M9 : Nat), lwS (dC, dI) A s e0 kc kR ko oa o cR (rU c 99 e9) st9 lg9 ai9 al9 R9 cap9 num9 f9 sR9 lR9 aR9 bR9 H locs → lv_has ls 8 [(4, .int i), (3, .ref oa), (2, .ref o), (1, .ref (c 100)), (0, .ref b)] → cap ≤ cap9 → (st 13).toInt ≤ (st9 13).toInt → (st9 13).toInt ≤ (st 13).toInt + 16 → (K9 : Int) ≤ (K0 : Int) + 3 + 3 * ((st9 13).toInt - (st 13).toInt) → (M9 : Int) ≤ (M0 : Int) + 18 + 29 * ((st9 13).toInt - (st 13).toInt) + 4 * ((cap9 : Int) - (cap : Int)) → W p l e room_1 s m #[Value.ref b] below meth cM H locs K9 M9 (lw_Z below #[Value.ref b] s) (F0 m 1103 ls [])) : W p l e room_1 s m #[Value.ref b] below meth cM H locs K0 M0 (lw_Z below #[Value.ref b] s) (F0 m 240 ls []) := by
  obtain ⟨hx, hb, hr, hml, hown, hts, hX, hbl, hlocks, hA, hA9, hbA, hY⟩ := C0
  obtain ⟨hI, hJ, hcE, hPZ, hDZ, hPY, hDY, hdj, hS⟩ := hS0
  obtain ⟨⟨rf1a, rf1b⟩, ⟨rf2a, rf2b⟩, ⟨rf3a, rf3b⟩, ⟨rf6a, rf6b⟩, ⟨rf7a, rf7b⟩, ⟨rf9a, rf9b⟩, ⟨rf12a, rf12b⟩, ⟨rf15a, rf15b⟩, ⟨rf16a, rf16b⟩, ⟨rf17a, rf17b⟩, ⟨rf21a, rf21b⟩, ⟨rf22a, rf22b⟩, ⟨rf24a, rf24b⟩, ⟨rf26a, rf26b⟩, ⟨rf30a, rf30b⟩, ⟨rf32a, rf32b⟩, ⟨rf37a, rf37b⟩, rR8, rR25, rR31, rR35⟩ := hJ
  have hG := hY.1
  have hGW := hG.1
  refine lv_aload_n hx hb dL_law_240 rfl (lv_at hl 3 rfl) ?_
  obtain ⟨⟨hf3a, hf3b⟩, ⟨hf5a, hf5b⟩, ⟨hf6a, hf6b⟩, ⟨hf9a, hf9b⟩, ⟨hf13a, hf13b⟩, ⟨hf15a, hf15b⟩, ⟨hf17a, hf17b⟩, ⟨hf25a, hf25b⟩, ⟨hf26a, hf26b⟩, ⟨hf27a, hf27b⟩, ⟨hf28a, hf28b⟩, ⟨hf37a, hf37b⟩, hR4, hR7, hR23, hR32, hR33, hPI, hN⟩ := id hI
  have hP : va_P (dC, dI) vwCl (cw_W (rU c 99 (c 99)) kc st lg ai al R) H := by rw [rU_self]; exact vP_l hPZ
  have hO := vP_r hPZ
  have hD : va_D A (cw_W (rU c 99 (c 99)) kc st lg ai al R) := by rw [rU_self]; exact vD_l hDZ
  have hDO := vD_r hDZ
  have hdis : dj (cw_W (rU c 99 (c 99)) kc st lg ai al R) [outC oa ko fo] := by rw [rU_self]; exact vD_dj hDZ
  have hdY : dj (cw_W (rU c 99 (c 99)) kc st lg ai al R) (rw_W o cR kR stR lgR aiR alR) := by rw [rU_self]; exact dj_l hdj
  have hdO := dj_r hdj
  have hc0 : cap = 0 → cap = 0 ∧ c 99 = c 99 := fun h => ⟨h, rfl⟩
  have hcp : cap ≤ cap := Nat.le_refl _
  have hN1 : ((cap : Nat) : Int) ≤ 10 + 2 * (st 13).toInt := hN.1
  have hmono : ∀ y m, pgM (kc 0) R y m → pgM (kc 0) R y m := fun y m h => h
  have hFc := vfree ((cw_D hD : va_D A (cw_W (rU c 99 (c 99)) kc st lg ai al R)) : va_D A (cw_W (rU c 99 (c 99)) kc st lg ai al R)) hS hA
  refine va_calli (va_runV (As := []) (rest := []) ⟨hx, hb, hml, hown, hts⟩ (v_X8_wipe l dC dI (rU c 99 (c 99)) kc st lg ai al R  _ (show 0 ≤ (st 5).toInt by omega) (show (st 5).toInt ≤ 400 by omega)) (cwV 0 hts gL_law_X8_wipe rfl rfl rfl (by decide +kernel) ⟨Nat.le_of_ble_eq_true rfl, Nat.le_of_ble_eq_true rfl⟩) ⟨fun a U g mk q => by obtain ⟨q0, q1, qP, qK, qD, qG⟩ := q; exact ⟨q0, q1, qP, va_K.moved (u := U) (U := U.calling g mk a) (Vm.Alike.refl U.vm) qK, qD, qG.same rfl rfl⟩, va_recv hK hP (ci := 10) (q := (RX8, TX8, 10)) rfl (q0 := 0) rfl, fun U hU hW => ⟨rfl, by rw [hU], by rw [hU]; exact hP, va_K.moved hW.alike hK, ((cw_D hD : va_D A (cw_W (rU c 99 (c 99)) kc st lg ai al R))).weaken (fun _ _ _ _ => trivial), hG.go hW hU hS hFc⟩⟩ rfl rfl hl.1 rfl (lv_room (Nat.le_of_ble_eq_true rfl)) dL_law_241 ⟨by show K0 + 0 ≤ 601024; omega, by show M0 + 0 ≤ 7293000; omega⟩) hS (fun q _ h => hFc q h) hFc (fun r_1 ur_1 t H1 locs ht hvm er_1 hB hz1 hk1 hS => ?_)
  subst er_1
  obtain ⟨x5_1, k_2, k_3, hP1⟩ := hB
  rw [ht] at hP1
  have hO1 := dj_keep hO hdis hk1
  have hPY1 := dj_keep hPY hdY hk1
  have hdis1 := hdis
  have hdY1 := hdY
  clear hO hdis hPY hdY
  clear hFc hz1 hk1 hvm hP
  subst ht
  have hP := hP1
  clear hP1
  generalize t.heap = H at hP hS hO1 hPY1 ⊢
  have hP : va_P (dC, dI) vwCl (cw_W (rU c 99 (c 99)) kc (rU st 5 x5_1) lg ai al R) H := hP
  have hO := hO1
  have hPY := hPY1
  have hdis := hdis1
  have hdY := hdY1
  clear hO1 hPY1 hdis1 hdY1
  have k_2 : 0 ≤ x5_1.toInt := k_2
  have k_3 : x5_1.toInt ≤ 400 := k_3
  have hI9 : cI (rU c 99 (c 99)) kc (rU st 5 x5_1) ai R cap num := ⟨(show 0 ≤ (st 3).toInt ∧ (st 3).toInt ≤ 8 from ⟨by omega, by omega⟩), (show 0 ≤ x5_1.toInt ∧ x5_1.toInt ≤ 400 from ⟨by omega, by omega⟩), (show 1 ≤ (st 6).toInt ∧ (st 6).toInt ≤ 65536 from ⟨by omega, by omega⟩), (show 0 ≤ (st 9).toInt ∧ (st 9).toInt ≤ 1 from ⟨by omega, by omega⟩), (show 0 ≤ (st 13).toInt ∧ (st 13).toInt ≤ 65536 from ⟨by omega, by omega⟩), (show 0 ≤ (st 15).toInt ∧ (st 15).toInt ≤ 1 from ⟨by omega, by omega⟩), (show 0 ≤ (st 17).toInt ∧ (st 17).toInt ≤ 128 from ⟨by omega, by omega⟩), (show 0 ≤ (st 25).toInt ∧ (st 25).toInt ≤ 128 from ⟨by omega, by omega⟩), (show 0 ≤ (st 26).toInt ∧ (st 26).toInt ≤ 128 from ⟨by omega, by omega⟩), (show -1 ≤ (st 27).toInt ∧ (st 27).toInt ≤ 127 from ⟨by omega, by omega⟩), (show 0 ≤ (st 28).toInt ∧ (st 28).toInt ≤ 1 from ⟨by omega, by omega⟩), (show 0 ≤ (st 37).toInt ∧ (st 37).toInt ≤ 255 from ⟨by omega, by omega⟩), (show aR (ai 4) 400 (-128) 127 from hR4), (show aR (ai 7) 8224 (-128) 127 from hR7), (show aR (ai 23) 128 (0) 127 from hR23), (show aR (ai 32) 16 (0) 400 from hR32), (show aR (ai 33) 16 (0) 255 from hR33), hPI, hN⟩
  have hPZ : va_P (dC, dI) vwCl (cw_W (rU c 99 (c 99)) kc (rU st 5 x5_1) lg ai al R ++ [outC oa ko fo]) H := hP.app hO
  have hDZ : va_D A (cw_W (rU c 99 (c 99)) kc (rU st 5 x5_1) lg ai al R ++ [outC oa ko fo]) := va_D.app (cw_D hD) hDO (cw_dj hdis)
  have hdj : dj (cw_W (rU c 99 (c 99)) kc (rU st 5 x5_1) lg ai al R ++ [outC oa ko fo]) (rw_W o cR kR stR lgR aiR alR) := dj_app (cw_dj hdY) hdO
  refine lv_pop hx hb dL_law_244 rfl ?_
  refine lv_aload_n hx hb dL_law_245 rfl (lv_at hl 2 rfl) ?_
  have hFc := vfree (rw_D hDY : va_D A (rw_W o cR kR stR lgR aiR alR)) hS hA
  refine va_calli (va_runV (As := []) (rest := []) ⟨hx, hb, hml, hown, hts⟩ (v_X9_wipe l dC dI o cR kR stR lgR aiR alR  _ (show 0 ≤ (stR 9).toInt from rf9a) (show (stR 9).toInt ≤ 400 from rf9b)) (cwV 0 hts gL_law_X9_wipe rfl rfl rfl (by decide +kernel) ⟨Nat.le_of_ble_eq_true rfl, Nat.le_of_ble_eq_true rfl⟩) ⟨fun a U g mk q => by obtain ⟨q0, q1, qP, qK, qD⟩ := q; exact ⟨q0, q1, qP, va_K.moved (u := U) (U := U.calling g mk a) (Vm.Alike.refl U.vm) qK, qD⟩, va_recv hKR hPY (ci := 11) (q := (RX9, TX9, 38)) rfl (q0 := 0) rfl, fun U hU hW => ⟨rfl, by rw [hU], by rw [hU]; exact hPY, va_K.moved hW.alike hKR, (rw_D hDY).weaken (fun _ _ _ _ => trivial)⟩⟩ rfl rfl hl.1 rfl (lv_room (Nat.le_of_ble_eq_true rfl)) dL_law_246 ⟨by show K0 + 0 ≤ 601024; omega, by show M0 + 0 ≤ 7293000; omega⟩) hS (fun q _ h => hFc q h) hFc (fun r_4 u t H1 locs ht hvm er_4 hB hz1 hk1 hS => ?_)
  subst er_4
  obtain ⟨x9_4, x13_4, y90_4, y91_4, hP1⟩ := hB
  rw [ht] at hP1
  have hPZ := dj_keep hPZ (dj_sym (rw_dj (lg' := lgR) (st' := stR) (ai' := aiR) (al' := alR) hdj)) hk1
  clear hPY hz1 hk1 hvm hFc
  subst ht
  have hPY := hP1
  clear hP1
  generalize t.heap = H at hPY hPZ hS ⊢
  have hPY : va_P (dC, dI) vwCl (rw_W o cR kR (rU (rU stR 9 x9_4) 13 x13_4) lgR aiR alR) H := hPY
  have rf9a : 0 ≤ x9_4.toInt := y90_4
  have rf9b : x9_4.toInt ≤ 400 := y91_4
  refine lv_pop hx hb dL_law_249 rfl ?_
  refine lv_goto (tgt := 1103) hx hb dL_law_250 (by decide) ?_
  exact kk (c 99) (rU st 5 x5_1) lg ai al R cap num fo (rU (rU stR 9 x9_4) 13 x13_4) lgR aiR alR _ locs ls K0 M0 ⟨hI9, ⟨⟨rf1a, rf1b⟩, ⟨rf2a, rf2b⟩, ⟨rf3a, rf3b⟩, ⟨rf6a, rf6b⟩, ⟨rf7a, rf7b⟩, ⟨rf9a, rf9b⟩, ⟨rf12a, rf12b⟩, ⟨rf15a, rf15b⟩, ⟨rf16a, rf16b⟩, ⟨rf17a, rf17b⟩, ⟨rf21a, rf21b⟩, ⟨rf22a, rf22b⟩, ⟨rf24a, rf24b⟩, ⟨rf26a, rf26b⟩, ⟨rf30a, rf30b⟩, ⟨rf32a, rf32b⟩, ⟨rf37a, rf37b⟩, rR8, rR25, rR31, rR35⟩, (fun h => hcE h), hPZ, hDZ, hPY, rw_D hDY, rw_dj hdj, hS⟩ (lv_sub hl [0, 1, 2, 3, 4] rfl) (Nat.le_refl _) (show (st 13).toInt ≤ ((rU st 5 x5_1) 13).toInt by show (st 13).toInt ≤ (st 13).toInt; omega) (show ((rU st 5 x5_1) 13).toInt ≤ (st 13).toInt + 16 by show (st 13).toInt ≤ (st 13).toInt + 16; omega) (by show (K0 : Int) ≤ (K0 : Int) + 3 + 3 * ((st 13).toInt - (st 13).toInt); omega) (by show (M0 : Int) ≤ (M0 : Int) + 18 + 29 * ((st 13).toInt - (st 13).toInt) + 4 * ((cap : Int) - (cap : Int)); omega)

set_option maxHeartbeats 4000000 in
set_option maxRecDepth 100000 in
theorem lwq_2 {p : Program} {e : Env} {s : State} {m : MethodId} {below : List Frame} {meth : Method} {cM : Code} (l : Launch) (hl0 : l.stackTraces = false) {A : Nat → Prop} {dC : Nat → ClassId} {dI : Nat → Nat → Nat} {b L e0 : Nat} {xs : Nat → Int32} (kc kR : Nat → ClassId) (ko : ClassId) (oa o : Nat) (cR : Nat → Nat) (c : Nat → Nat) (st : Nat → Int32) (lg : Nat → Int64) (ai : Nat → Nat → Int32) (al : Nat → Nat → Int64) (R : va_W) (cap : Nat) (num : Nat → Int32) (fo : Nat → Int64) (stR : Nat → Int32) (lgR : Nat → Int64) (aiR : Nat → Nat → Int32) (alR : Nat → Nat → Int64) (H : Heap) (locs : List Loc) (ls : Array Slot) (i : Int32) (K0 M0 : Nat) (C0 : lwB p s m meth cM b L xs A e0) (hK : va_K (dC, dI) vwCl (cw_T kc) s) (hKo : va_K (dC, dI) vwCl [(ko, .long)] s) (hKR : va_K (dC, dI) vwCl (rw_T kR) s) (hS0 : lwS (dC, dI) A s e0 kc kR ko oa o cR c st lg ai al R cap num fo stR lgR aiR alR H locs) (hl : lv_has ls 8 [(4, .int i), (3, .ref oa), (2, .ref o), (1, .ref (c 100)), (0, .ref b)]) (hi : 1 ≤ i.toInt) (hi2 : i.toInt + 4 < (L : Int)) (hL : L ≤ 2561) (hK0 : K0 + 100 ≤ 601024) (hM0 : M0 + 1200000 ≤ 7293000) (kk : ∀ (e9 : Nat) (st9 : Nat → Int32) (lg9 : Nat → Int64) (ai9 : Nat → Nat → Int32) (al9 : Nat → Nat → Int64) (R9 : va_W) (cap9 : Nat) (num9 : Nat → Int32) (f9 : Nat → Int64) (sR9 : Nat → Int32) (lR9 : Nat → Int64) (aR9 : Nat → Nat → Int32) (bR9 : Nat → Nat → Int64) (H : Heap) (locs : List Loc) (ls : Array Slot) (K9 M9 : Nat), lwS (dC, dI) A s e0 kc kR ko oa o cR (rU c 99 e9) st9 lg9 ai9 al9 R9 cap9 num9 f9 sR9 lR9 aR9 bR9 H locs → lv_has ls 8 [(4, .int i), (3, .ref oa), (2, .ref o), (1, .ref (c 100)), (0, .ref b)] → cap ≤ cap9 → (st 13).toInt ≤ (st9 13).toInt → (st9 13).toInt ≤ (st 13).toInt + 16 → (K9 : Int) ≤ (K0 : Int) + 3 + 3 * ((st9 13).toInt - (st 13).toInt) → (M9 : Int) ≤ (M0 : Int) + 18 + 29 * ((st9 13).toInt - (st 13).toInt) + 4 * ((cap9 : Int) - (cap : Int)) → W p l e room_1 s m #[Value.ref b] below meth cM H locs K9 M9 (lw_Z below #[Value.ref b] s) (F0 m 1103 ls [])) : W p l e room_1 s m #[Value.ref b] below meth cM H locs K0 M0 (lw_Z below #[Value.ref b] s) (F0 m 253 ls []) := by
  obtain ⟨hx, hb, hr, hml, hown, hts, hX, hbl, hlocks, hA, hA9, hbA, hY⟩ := C0
  obtain ⟨hI, hJ, hcE, hPZ, hDZ, hPY, hDY, hdj, hS⟩ := hS0
  obtain ⟨⟨rf1a, rf1b⟩, ⟨rf2a, rf2b⟩, ⟨rf3a, rf3b⟩, ⟨rf6a, rf6b⟩, ⟨rf7a, rf7b⟩, ⟨rf9a, rf9b⟩, ⟨rf12a, rf12b⟩, ⟨rf15a, rf15b⟩, ⟨rf16a, rf16b⟩, ⟨rf17a, rf17b⟩, ⟨rf21a, rf21b⟩, ⟨rf22a, rf22b⟩, ⟨rf24a, rf24b⟩, ⟨rf26a, rf26b⟩, ⟨rf30a, rf30b⟩, ⟨rf32a, rf32b⟩, ⟨rf37a, rf37b⟩, rR8, rR25, rR31, rR35⟩ := hJ
  have hG := hY.1
  have hGW := hG.1
  have z_1 : (1 : Int32).toInt = 1 := by decide
  refine lv_aload_n hx hb dL_law_253 rfl (lv_at hl 3 rfl) ?_
  refine lv_aload_n hx hb dL_law_254 rfl (lv_at hl 4 rfl) ?_
  refine lv_iload hx hb dL_law_255 (lv_at hl 0 rfl) ?_
  refine lv_iconst (v := 1) hx hb dL_law_257 (by decide) ?_
  refine lv_iadd hx hb dL_law_258 ?_
  refine lv_topi (fun v_1 ev_1 => ?_)
  have rg1 := iv_rng i
  have hv_1 : v_1.toInt = i.toInt + 1 := by rw [ev_1]; exact (iv_add (by omega) (by omega)).trans (by omega)
  clear ev_1
  refine va_sld hx hb hX hbl hbA hS (iv_in (i := v_1) (by omega) (by omega)) dL_law_259 ?_
  refine lv_topi (fun v_2 ev_2 => ?_)
  clear ev_2
  refine lv_aload_n hx hb dL_law_260 rfl (lv_at hl 1 rfl) ?_
  refine W_read (fun hu1 hu2 => ?_)
  have hFc := vfree hDZ hS hA
  refine va_calli (vx_runSW (As := [.ref (c 100), .int v_2, .ref oa]) (rest := []) ⟨hx, hb, hml, hown, hts⟩ (h_L_at l hl0 dC dI c kc st lg ai al R cap num oa ko fo v_2 _ _ hI) (vx_cwSW 3 hts gL_law_L_at rfl rfl rfl (by decide +kernel) ⟨Nat.le_of_ble_eq_true rfl, Nat.le_of_ble_eq_true rfl⟩) ⟨fun a U g mk q => by obtain ⟨q0, q1, q2, qP, qK, qO, qD, qG⟩ := q; exact ⟨q0, q1, q2, qP, va_K.moved (u := U) (U := U.calling g mk a) (Vm.Alike.refl U.vm) qK, va_K.moved (u := U) (U := U.calling g mk a) (Vm.Alike.refl U.vm) qO, qD, qG.same rfl rfl⟩, fun U hU hW => ⟨rfl, by rw [hU], by rw [hU], by rw [hU]; exact hPZ, va_K.moved hW.alike hK, va_K.moved hW.alike hKo, hDZ.weaken (fun _ _ _ _ => trivial), hY.go hW hU hS hFc (fun h => ⟨rfl, hcE h⟩)⟩⟩ rfl rfl hl.1 rfl (lv_room (Nat.le_of_ble_eq_true rfl)) dL_law_261 ⟨by show K0 + 1 ≤ 601024; omega, by show M0 + 6 ≤ 7293000; omega⟩) hS (fun q _ h => hFc q h) hFc (fun r u t H1 locs ht hvm er hB hz1 hk1 hS => ?_)
  subst er
  obtain ⟨e9, st9, lg9, ai9, al9, R9, cap9, num9, f9, hI9, hc9, hcp9, hn1, hn2, hs1, hs2, hP9, hD9⟩ := hB
  have hN9 : (cap9 : Int) ≤ 10 + 2 * (st9 13).toInt := by have hI := hI9; obtain ⟨⟨hf3a, hf3b⟩, ⟨hf5a, hf5b⟩, ⟨hf6a, hf6b⟩, ⟨hf9a, hf9b⟩, ⟨hf13a, hf13b⟩, ⟨hf15a, hf15b⟩, ⟨hf17a, hf17b⟩, ⟨hf25a, hf25b⟩, ⟨hf26a, hf26b⟩, ⟨hf27a, hf27b⟩, ⟨hf28a, hf28b⟩, ⟨hf37a, hf37b⟩, hR4, hR7, hR23, hR32, hR33, hPI, hN⟩ := hI; exact hN.1
  have hb9 : (st9 13).toInt ≤ 65536 := by have hI := hI9; obtain ⟨⟨hf3a, hf3b⟩, ⟨hf5a, hf5b⟩, ⟨hf6a, hf6b⟩, ⟨hf9a, hf9b⟩, ⟨hf13a, hf13b⟩, ⟨hf15a, hf15b⟩, ⟨hf17a, hf17b⟩, ⟨hf25a, hf25b⟩, ⟨hf26a, hf26b⟩, ⟨hf27a, hf27b⟩, ⟨hf28a, hf28b⟩, ⟨hf37a, hf37b⟩, hR4, hR7, hR23, hR32, hR33, hPI, hN⟩ := hI; exact hf13b
  rw [ht] at hP9 hs1 hs2
  have hdj9 := dj_new hPY hdj hD9
  have hPY := dj_keep hPY hdj hk1
  have hdj := hdj9
  have hDZ := hD9.weaken (fun _ _ _ h => hFc _ h)
  have hPZ := hP9
  have hcE : cap9 = 0 → (rU c 99 e9) 99 = e0 := fun h => (show e9 = e0 from (hc9 h).2.trans (hcE (hc9 h).1))
  obtain ⟨K1, hK1⟩ : ∃ k9 : Nat, (k9 : Int) = (K0 : Int) + 3 + 3 * ((st9 13).toInt - (st 13).toInt) := ⟨((K0 : Int) + 3 + 3 * ((st9 13).toInt - (st 13).toInt)).toNat, by omega⟩
  obtain ⟨M1, hM1⟩ : ∃ m9 : Nat, (m9 : Int) = (M0 : Int) + 18 + 29 * ((st9 13).toInt - (st 13).toInt) + 4 * ((cap9 : Int) - (cap : Int)) := ⟨((M0 : Int) + 18 + 29 * ((st9 13).toInt - (st 13).toInt) + 4 * ((cap9 : Int) - (cap : Int))).toNat, by omega⟩
  refine W_tight (k' := K1) (m' := M1) (by omega) (by omega) ?_
  clear hz1 hk1 hvm hs1 hs2 hu1 hu2 hP9 hD9 hdj9 hFc
  subst ht
  generalize t.heap = H at hPZ hPY hS ⊢
  refine lv_topi (fun r er9 => ?_)
  clear er9
  refine lv_istore (lv' := [(5, .int r), (4, .int i), (3, .ref oa), (2, .ref o), (1, .ref (c 100)), (0, .ref b)]) hx hb dL_law_264 hl (by decide) rfl (fun ls hl => ?_)
  refine lv_aload_n hx hb dL_law_266 rfl (lv_at hl 3 rfl) ?_
  refine lv_aload_n hx hb dL_law_267 rfl (lv_at hl 5 rfl) ?_
  refine lv_iload hx hb dL_law_268 (lv_at hl 1 rfl) ?_
  refine lv_iconst (v := 1) hx hb dL_law_270 (by decide) ?_
  refine lv_iadd hx hb dL_law_271 ?_
  refine lv_topi (fun v_3 ev_3 => ?_)
  have hv_3 : v_3.toInt = i.toInt + 1 := by rw [ev_3]; exact (iv_add (by omega) (by omega)).trans (by omega)
  clear ev_3
  refine va_sld hx hb hX hbl hbA hS (iv_in (i := v_3) (by omega) (by omega)) dL_law_272 ?_
  refine lv_topi (fun v_4 ev_4 => ?_)
  clear ev_4
  have hFc := vfree (rw_D hDY : va_D A (rw_W o cR kR stR lgR aiR alR)) hS hA
  refine va_calli (va_runV (As := [.int v_4]) (rest := []) ⟨hx, hb, hml, hown, hts⟩ (v_X9_at l dC dI o cR kR stR lgR aiR alR v_4 _ (show 0 ≤ (stR 9).toInt from rf9a) (show (stR 9).toInt ≤ 400 from rf9b) (show aR (aiR 8) 400 (0) 255 from rR8)) (cwV 1 hts gL_law_X9_at rfl rfl rfl (by decide +kernel) ⟨Nat.le_of_ble_eq_true rfl, Nat.le_of_ble_eq_true rfl⟩) ⟨fun a U g mk q => by obtain ⟨q0, q1, qP, qK, qD⟩ := q; exact ⟨q0, q1, qP, va_K.moved (u := U) (U := U.calling g mk a) (Vm.Alike.refl U.vm) qK, qD⟩, va_recv hKR hPY (ci := 11) (q := (RX9, TX9, 38)) rfl (q0 := 0) rfl, fun U hU hW => ⟨rfl, by rw [hU], by rw [hU]; exact hPY, va_K.moved hW.alike hKR, (rw_D hDY).weaken (fun _ _ _ _ => trivial)⟩⟩ rfl rfl hl.1 rfl (lv_room (Nat.le_of_ble_eq_true rfl)) dL_law_273 ⟨by show K1 + 0 ≤ 601024; omega, by show M1 + 0 ≤ 7293000; omega⟩) hS (fun q _ h => hFc q h) hFc (fun r_5 u t H1 locs ht hvm er_5 hB hz1 hk1 hS => ?_)
  subst er_5
  obtain ⟨x13_5, hP1⟩ := hB
  rw [ht] at hP1
  have hPZ := dj_keep hPZ (dj_sym (rw_dj (lg' := lgR) (st' := stR) (ai' := aiR) (al' := alR) hdj)) hk1
  clear hPY hz1 hk1 hvm hFc
  subst ht
  have hPY := hP1
  clear hP1
  generalize t.heap = H at hPY hPZ hS ⊢
  have hPY : va_P (dC, dI) vwCl (rw_W o cR kR (rU stR 13 x13_5) lgR aiR alR) H := hPY
  refine lv_istore (lv' := [(6, .int r_5), (5, .int r), (4, .int i), (3, .ref oa), (2, .ref o), (1, .ref (c 100)), (0, .ref b)]) hx hb dL_law_276 hl (by decide) rfl (fun ls hl => ?_)
  refine lv_goto (tgt := 1103) hx hb dL_law_278 (by decide) ?_
  exact kk e9 st9 lg9 ai9 al9 R9 cap9 num9 f9 (rU stR 13 x13_5) lgR aiR alR _ locs ls K1 M1 ⟨hI9, ⟨⟨rf1a, rf1b⟩, ⟨rf2a, rf2b⟩, ⟨rf3a, rf3b⟩, ⟨rf6a, rf6b⟩, ⟨rf7a, rf7b⟩, ⟨rf9a, rf9b⟩, ⟨rf12a, rf12b⟩, ⟨rf15a, rf15b⟩, ⟨rf16a, rf16b⟩, ⟨rf17a, rf17b⟩, ⟨rf21a, rf21b⟩, ⟨rf22a, rf22b⟩, ⟨rf24a, rf24b⟩, ⟨rf26a, rf26b⟩, ⟨rf30a, rf30b⟩, ⟨rf32a, rf32b⟩, ⟨rf37a, rf37b⟩, rR8, rR25, rR31, rR35⟩, hcE, hPZ, hDZ, hPY, rw_D hDY, rw_dj hdj, hS⟩ (lv_sub hl [2, 3, 4, 5, 6] rfl) hcp9 (show (st 13).toInt ≤ (st9 13).toInt by omega) (show (st9 13).toInt ≤ (st 13).toInt + 16 by omega) (by omega) (by omega)

set_option maxHeartbeats 4000000 in
set_option maxRecDepth 100000 in
theorem lwq_3 {p : Program} {e : Env} {s : State} {m : MethodId} {below : List Frame} {meth : Method} {cM : Code} (l : Launch) (hl0 : l.stackTraces = false) {A : Nat → Prop} {dC : Nat → ClassId} {dI : Nat → Nat → Nat} {b L e0 : Nat} {xs : Nat → Int32} (kc kR : Nat → ClassId) (ko : ClassId) (oa o : Nat) (cR : Nat → Nat) (c : Nat → Nat) (st : Nat → Int32) (lg : Nat → Int64) (ai : Nat → Nat → Int32) (al : Nat → Nat → Int64) (R : va_W) (cap : Nat) (num : Nat → Int32) (fo : Nat → Int64) (stR : Nat → Int32) (lgR : Nat → Int64) (aiR : Nat → Nat → Int32) (alR : Nat → Nat → Int64) (H : Heap) (locs : List Loc) (ls : Array Slot) (i : Int32) (K0 M0 : Nat) (C0 : lwB p s m meth cM b L xs A e0) (hK : va_K (dC, dI) vwCl (cw_T kc) s) (hKo : va_K (dC, dI) vwCl [(ko, .long)] s) (hKR : va_K (dC, dI) vwCl (rw_T kR) s) (hS0 : lwS (dC, dI) A s e0 kc kR ko oa o cR c st lg ai al R cap num fo stR lgR aiR alR H locs) (hl : lv_has ls 8 [(4, .int i), (3, .ref oa), (2, .ref o), (1, .ref (c 100)), (0, .ref b)]) (hi : 1 ≤ i.toInt) (hi2 : i.toInt + 4 < (L : Int)) (hL : L ≤ 2561) (hK0 : K0 + 100 ≤ 601024) (hM0 : M0 + 1200000 ≤ 7293000) (kk : ∀ (e9 : Nat) (st9 : Nat → Int32) (lg9 : Nat → Int64) (ai9 : Nat → Nat → Int32) (al9 : Nat → Nat → Int64) (R9 : va_W) (cap9 : Nat) (num9 : Nat → Int32) (f9 : Nat → Int64) (sR9 : Nat → Int32) (lR9 : Nat → Int64) (aR9 : Nat → Nat → Int32) (bR9 : Nat → Nat → Int64) (H : Heap) (locs : List Loc) (ls : Array Slot) (K9 M9 : Nat), lwS (dC, dI) A s e0 kc kR ko oa o cR (rU c 99 e9) st9 lg9 ai9 al9 R9 cap9 num9 f9 sR9 lR9 aR9 bR9 H locs → lv_has ls 8 [(4, .int i), (3, .ref oa), (2, .ref o), (1, .ref (c 100)), (0, .ref b)] → cap ≤ cap9 → (st 13).toInt ≤ (st9 13).toInt → (st9 13).toInt ≤ (st 13).toInt + 16 → (K9 : Int) ≤ (K0 : Int) + 3 + 3 * ((st9 13).toInt - (st 13).toInt) → (M9 : Int) ≤ (M0 : Int) + 18 + 29 * ((st9 13).toInt - (st 13).toInt) + 4 * ((cap9 : Int) - (cap : Int)) → W p l e room_1 s m #[Value.ref b] below meth cM H locs K9 M9 (lw_Z below #[Value.ref b] s) (F0 m 1103 ls [])) : W p l e room_1 s m #[Value.ref b] below meth cM H locs K0 M0 (lw_Z below #[Value.ref b] s) (F0 m 281 ls []) := by
  obtain ⟨hx, hb, hr, hml, hown, hts, hX, hbl, hlocks, hA, hA9, hbA, hY⟩ := C0
  obtain ⟨hI, hJ, hcE, hPZ, hDZ, hPY, hDY, hdj, hS⟩ := hS0
  obtain ⟨⟨rf1a, rf1b⟩, ⟨rf2a, rf2b⟩, ⟨rf3a, rf3b⟩, ⟨rf6a, rf6b⟩, ⟨rf7a, rf7b⟩, ⟨rf9a, rf9b⟩, ⟨rf12a, rf12b⟩, ⟨rf15a, rf15b⟩, ⟨rf16a, rf16b⟩, ⟨rf17a, rf17b⟩, ⟨rf21a, rf21b⟩, ⟨rf22a, rf22b⟩, ⟨rf24a, rf24b⟩, ⟨rf26a, rf26b⟩, ⟨rf30a, rf30b⟩, ⟨rf32a, rf32b⟩, ⟨rf37a, rf37b⟩, rR8, rR25, rR31, rR35⟩ := hJ
  have hG := hY.1
  have hGW := hG.1
  refine lv_aload_n hx hb dL_law_281 rfl (lv_at hl 3 rfl) ?_
  refine lv_aload_n hx hb dL_law_282 rfl (lv_at hl 1 rfl) ?_
  refine W_read (fun hu1 hu2 => ?_)
  have hFc := vfree hDZ hS hA
  refine va_calli (vx_runSW (As := [.ref (c 100), .ref oa]) (rest := []) ⟨hx, hb, hml, hown, hts⟩ (h_L_leaf l hl0 dC dI c kc st lg ai al R cap num oa ko fo  _ _ hI) (vx_cwSW 2 hts gL_law_L_leaf rfl rfl rfl (by decide +kernel) ⟨Nat.le_of_ble_eq_true rfl, Nat.le_of_ble_eq_true rfl⟩) ⟨fun a U g mk q => by obtain ⟨q0, q1, q2, qP, qK, qO, qD, qG⟩ := q; exact ⟨q0, q1, q2, qP, va_K.moved (u := U) (U := U.calling g mk a) (Vm.Alike.refl U.vm) qK, va_K.moved (u := U) (U := U.calling g mk a) (Vm.Alike.refl U.vm) qO, qD, qG.same rfl rfl⟩, fun U hU hW => ⟨rfl, by rw [hU], by rw [hU], by rw [hU]; exact hPZ, va_K.moved hW.alike hK, va_K.moved hW.alike hKo, hDZ.weaken (fun _ _ _ _ => trivial), hY.go hW hU hS hFc (fun h => ⟨rfl, hcE h⟩)⟩⟩ rfl rfl hl.1 rfl (lv_room (Nat.le_of_ble_eq_true rfl)) dL_law_283 ⟨by show K0 + 8 ≤ 601024; omega, by show M0 + 640100 ≤ 7293000; omega⟩) hS (fun q _ h => hFc q h) hFc (fun r u t H1 locs ht hvm er hB hz1 hk1 hS => ?_)
  subst er
  obtain ⟨e9, st9, lg9, ai9, al9, R9, cap9, num9, f9, hI9, hc9, hcp9, hn1, hn2, hs1, hs2, hP9, hD9⟩ := hB
  have hN9 : (cap9 : Int) ≤ 10 + 2 * (st9 13).toInt := by have hI := hI9; obtain ⟨⟨hf3a, hf3b⟩, ⟨hf5a, hf5b⟩, ⟨hf6a, hf6b⟩, ⟨hf9a, hf9b⟩, ⟨hf13a, hf13b⟩, ⟨hf15a, hf15b⟩, ⟨hf17a, hf17b⟩, ⟨hf25a, hf25b⟩, ⟨hf26a, hf26b⟩, ⟨hf27a, hf27b⟩, ⟨hf28a, hf28b⟩, ⟨hf37a, hf37b⟩, hR4, hR7, hR23, hR32, hR33, hPI, hN⟩ := hI; exact hN.1
  have hb9 : (st9 13).toInt ≤ 65536 := by have hI := hI9; obtain ⟨⟨hf3a, hf3b⟩, ⟨hf5a, hf5b⟩, ⟨hf6a, hf6b⟩, ⟨hf9a, hf9b⟩, ⟨hf13a, hf13b⟩, ⟨hf15a, hf15b⟩, ⟨hf17a, hf17b⟩, ⟨hf25a, hf25b⟩, ⟨hf26a, hf26b⟩, ⟨hf27a, hf27b⟩, ⟨hf28a, hf28b⟩, ⟨hf37a, hf37b⟩, hR4, hR7, hR23, hR32, hR33, hPI, hN⟩ := hI; exact hf13b
  rw [ht] at hP9 hs1 hs2
  have hdj9 := dj_new hPY hdj hD9
  have hPY := dj_keep hPY hdj hk1
  have hdj := hdj9
  have hDZ := hD9.weaken (fun _ _ _ h => hFc _ h)
  have hPZ := hP9
  have hcE : cap9 = 0 → (rU c 99 e9) 99 = e0 := fun h => (show e9 = e0 from (hc9 h).2.trans (hcE (hc9 h).1))
  obtain ⟨K1, hK1⟩ : ∃ k9 : Nat, (k9 : Int) = (K0 : Int) + 3 + 3 * ((st9 13).toInt - (st 13).toInt) := ⟨((K0 : Int) + 3 + 3 * ((st9 13).toInt - (st 13).toInt)).toNat, by omega⟩
  obtain ⟨M1, hM1⟩ : ∃ m9 : Nat, (m9 : Int) = (M0 : Int) + 18 + 29 * ((st9 13).toInt - (st 13).toInt) + 4 * ((cap9 : Int) - (cap : Int)) := ⟨((M0 : Int) + 18 + 29 * ((st9 13).toInt - (st 13).toInt) + 4 * ((cap9 : Int) - (cap : Int))).toNat, by omega⟩
  refine W_tight (k' := K1) (m' := M1) (by omega) (by omega) ?_
  clear hz1 hk1 hvm hs1 hs2 hu1 hu2 hP9 hD9 hdj9 hFc
  subst ht
  generalize t.heap = H at hPZ hPY hS ⊢
  refine lv_topi (fun r er9 => ?_)
  clear er9
  refine lv_istore (lv' := [(5, .int r), (4, .int i), (3, .ref oa), (2, .ref o), (1, .ref (c 100)), (0, .ref b)]) hx hb dL_law_286 hl (by decide) rfl (fun ls hl => ?_)
  refine lv_aload_n hx hb dL_law_288 rfl (lv_at hl 3 rfl) ?_
  have hFc := vfree (rw_D hDY : va_D A (rw_W o cR kR stR lgR aiR alR)) hS hA
  refine va_calli (va_runV (As := []) (rest := []) ⟨hx, hb, hml, hown, hts⟩ (v_X9_leaf l dC dI o cR kR stR lgR aiR alR  _ (show 1 ≤ (stR 1).toInt from rf1a) (show (stR 1).toInt ≤ 65536 from rf1b) (show 0 ≤ (stR 3).toInt from rf3a) (show (stR 3).toInt ≤ 1 from rf3b) (show 0 ≤ (stR 6).toInt from rf6a) (show (stR 6).toInt ≤ 1 from rf6b) (show 0 ≤ (stR 7).toInt from rf7a) (show (stR 7).toInt ≤ 1 from rf7b) (show 0 ≤ (stR 9).toInt from rf9a) (show (stR 9).toInt ≤ 400 from rf9b) (show 0 ≤ (stR 12).toInt from rf12a) (show (stR 12).toInt ≤ 8 from rf12b) (show 0 ≤ (stR 15).toInt from rf15a) (show (stR 15).toInt ≤ 128 from rf15b) (show aR (aiR 8) 400 (0) 255 from rR8)) (cwV 0 hts gL_law_X9_leaf rfl rfl rfl (by decide +kernel) ⟨Nat.le_of_ble_eq_true rfl, Nat.le_of_ble_eq_true rfl⟩) ⟨fun a U g mk q => by obtain ⟨q0, q1, qP, qK, qD⟩ := q; exact ⟨q0, q1, qP, va_K.moved (u := U) (U := U.calling g mk a) (Vm.Alike.refl U.vm) qK, qD⟩, va_recv hKR hPY (ci := 11) (q := (RX9, TX9, 38)) rfl (q0 := 0) rfl, fun U hU hW => ⟨rfl, by rw [hU], by rw [hU]; exact hPY, va_K.moved hW.alike hKR, (rw_D hDY).weaken (fun _ _ _ _ => trivial)⟩⟩ rfl rfl hl.1 rfl (lv_room (Nat.le_of_ble_eq_true rfl)) dL_law_289 ⟨by show K1 + 0 ≤ 601024; omega, by show M1 + 0 ≤ 7293000; omega⟩) hS (fun q _ h => hFc q h) hFc (fun r_1 u t H1 locs ht hvm er_1 hB hz1 hk1 hS => ?_)
  subst er_1
  obtain ⟨x3_1, x4_1, x5_1, x6_1, x9_1, x12_1, x13_1, f0_1, f14_1, y90_1, y91_1, y92_1, y93_1, y94_1, y95_1, y96_1, y97_1, hP1⟩ := hB
  rw [ht] at hP1
  have hPZ := dj_keep hPZ (dj_sym (rw_dj (lg' := lgR) (st' := stR) (ai' := aiR) (al' := alR) hdj)) hk1
  clear hPY hz1 hk1 hvm hFc
  subst ht
  have hPY := hP1
  clear hP1
  generalize t.heap = H at hPY hPZ hS ⊢
  have hPY : va_P (dC, dI) vwCl (rw_W o cR kR (rU (rU (rU (rU (rU (rU (rU stR 3 x3_1) 4 x4_1) 5 x5_1) 6 x6_1) 9 x9_1) 12 x12_1) 13 x13_1) lgR (rU (rU aiR 0 f0_1) 14 f14_1) alR) H := hPY
  have rf3a : 0 ≤ x3_1.toInt := y90_1
  have rf3b : x3_1.toInt ≤ 1 := y91_1
  have rf6a : 0 ≤ x6_1.toInt := y92_1
  have rf6b : x6_1.toInt ≤ 1 := y93_1
  have rf9a : 0 ≤ x9_1.toInt := y94_1
  have rf9b : x9_1.toInt ≤ 400 := y95_1
  have rf12a : 0 ≤ x12_1.toInt := y96_1
  have rf12b : x12_1.toInt ≤ 8 := y97_1
  refine lv_istore (lv' := [(6, .int r_1), (5, .int r), (4, .int i), (3, .ref oa), (2, .ref o), (1, .ref (c 100)), (0, .ref b)]) hx hb dL_law_292 hl (by decide) rfl (fun ls hl => ?_)
  refine lv_goto (tgt := 1103) hx hb dL_law_294 (by decide) ?_
  exact kk e9 st9 lg9 ai9 al9 R9 cap9 num9 f9 (rU (rU (rU (rU (rU (rU (rU stR 3 x3_1) 4 x4_1) 5 x5_1) 6 x6_1) 9 x9_1) 12 x12_1) 13 x13_1) lgR (rU (rU aiR 0 f0_1) 14 f14_1) alR _ locs ls K1 M1 ⟨hI9, ⟨⟨rf1a, rf1b⟩, ⟨rf2a, rf2b⟩, ⟨rf3a, rf3b⟩, ⟨rf6a, rf6b⟩, ⟨rf7a, rf7b⟩, ⟨rf9a, rf9b⟩, ⟨rf12a, rf12b⟩, ⟨rf15a, rf15b⟩, ⟨rf16a, rf16b⟩, ⟨rf17a, rf17b⟩, ⟨rf21a, rf21b⟩, ⟨rf22a, rf22b⟩, ⟨rf24a, rf24b⟩, ⟨rf26a, rf26b⟩, ⟨rf30a, rf30b⟩, ⟨rf32a, rf32b⟩, ⟨rf37a, rf37b⟩, rR8, rR25, rR31, rR35⟩, hcE, hPZ, hDZ, hPY, rw_D hDY, rw_dj hdj, hS⟩ (lv_sub hl [2, 3, 4, 5, 6] rfl) hcp9 (show (st 13).toInt ≤ (st9 13).toInt by omega) (show (st9 13).toInt ≤ (st 13).toInt + 16 by omega) (by omega) (by omega)

set_option maxHeartbeats 4000000 in
set_option maxRecDepth 100000 in
theorem lwq_4 {p : Program} {e : Env} {s : State} {m : MethodId} {below : List Frame} {meth : Method} {cM : Code} (l : Launch) (hl0 : l.stackTraces = false) {A : Nat → Prop} {dC : Nat → ClassId} {dI : Nat → Nat → Nat} {b L e0 : Nat} {xs : Nat → Int32} (kc kR : Nat → ClassId) (ko : ClassId) (oa o : Nat) (cR : Nat → Nat) (c : Nat → Nat) (st : Nat → Int32) (lg : Nat → Int64) (ai : Nat → Nat → Int32) (al : Nat → Nat → Int64) (R : va_W) (cap : Nat) (num : Nat → Int32) (fo : Nat → Int64) (stR : Nat → Int32) (lgR : Nat → Int64) (aiR : Nat → Nat → Int32) (alR : Nat → Nat → Int64) (H : Heap) (locs : List Loc) (ls : Array Slot) (i : Int32) (K0 M0 : Nat) (C0 : lwB p s m meth cM b L xs A e0) (hK : va_K (dC, dI) vwCl (cw_T kc) s) (hKo : va_K (dC, dI) vwCl [(ko, .long)] s) (hKR : va_K (dC, dI) vwCl (rw_T kR) s) (hS0 : lwS (dC, dI) A s e0 kc kR ko oa o cR c st lg ai al R cap num fo stR lgR aiR alR H locs) (hl : lv_has ls 8 [(4, .int i), (3, .ref oa), (2, .ref o), (1, .ref (c 100)), (0, .ref b)]) (hi : 1 ≤ i.toInt) (hi2 : i.toInt + 4 < (L : Int)) (hL : L ≤ 2561) (hK0 : K0 + 100 ≤ 601024) (hM0 : M0 + 1200000 ≤ 7293000) (kk : ∀ (e9 : Nat) (st9 : Nat → Int32) (lg9 : Nat → Int64) (ai9 : Nat → Nat → Int32) (al9 : Nat → Nat → Int64) (R9 : va_W) (cap9 : Nat) (num9 : Nat → Int32) (f9 : Nat → Int64) (sR9 : Nat → Int32) (lR9 : Nat → Int64) (aR9 : Nat → Nat → Int32) (bR9 : Nat → Nat → Int64) (H : Heap) (locs : List Loc) (ls : Array Slot) (K9 M9 : Nat), lwS (dC, dI) A s e0 kc kR ko oa o cR (rU c 99 e9) st9 lg9 ai9 al9 R9 cap9 num9 f9 sR9 lR9 aR9 bR9 H locs → lv_has ls 8 [(4, .int i), (3, .ref oa), (2, .ref o), (1, .ref (c 100)), (0, .ref b)] → cap ≤ cap9 → (st 13).toInt ≤ (st9 13).toInt → (st9 13).toInt ≤ (st 13).toInt + 16 → (K9 : Int) ≤ (K0 : Int) + 3 + 3 * ((st9 13).toInt - (st 13).toInt) → (M9 : Int) ≤ (M0 : Int) + 18 + 29 * ((st9 13).toInt - (st 13).toInt) + 4 * ((cap9 : Int) - (cap : Int)) → W p l e room_1 s m #[Value.ref b] below meth cM H locs K9 M9 (lw_Z below #[Value.ref b] s) (F0 m 1103 ls [])) : W p l e room_1 s m #[Value.ref b] below meth cM H locs K0 M0 (lw_Z below #[Value.ref b] s) (F0 m 297 ls []) := by
  obtain ⟨hx, hb, hr, hml, hown, hts, hX, hbl, hlocks, hA, hA9, hbA, hY⟩ := C0
  obtain ⟨hI, hJ, hcE, hPZ, hDZ, hPY, hDY, hdj, hS⟩ := hS0
  obtain ⟨⟨rf1a, rf1b⟩, ⟨rf2a, rf2b⟩, ⟨rf3a, rf3b⟩, ⟨rf6a, rf6b⟩, ⟨rf7a, rf7b⟩, ⟨rf9a, rf9b⟩, ⟨rf12a, rf12b⟩, ⟨rf15a, rf15b⟩, ⟨rf16a, rf16b⟩, ⟨rf17a, rf17b⟩, ⟨rf21a, rf21b⟩, ⟨rf22a, rf22b⟩, ⟨rf24a, rf24b⟩, ⟨rf26a, rf26b⟩, ⟨rf30a, rf30b⟩, ⟨rf32a, rf32b⟩, ⟨rf37a, rf37b⟩, rR8, rR25, rR31, rR35⟩ := hJ
  have hG := hY.1
  have hGW := hG.1
  have z_1 : (1 : Int32).toInt = 1 := by decide
  have z_2 : (2 : Int32).toInt = 2 := by decide
  refine lv_aload_n hx hb dL_law_297 rfl (lv_at hl 3 rfl) ?_
  refine lv_aload_n hx hb dL_law_298 rfl (lv_at hl 4 rfl) ?_
  refine lv_iload hx hb dL_law_299 (lv_at hl 0 rfl) ?_
  refine lv_iconst (v := 1) hx hb dL_law_301 (by decide) ?_
  refine lv_iadd hx hb dL_law_302 ?_
  refine lv_topi (fun v_1 ev_1 => ?_)
  have rg1 := iv_rng i
  have hv_1 : v_1.toInt = i.toInt + 1 := by rw [ev_1]; exact (iv_add (by omega) (by omega)).trans (by omega)
  clear ev_1
  refine va_sld hx hb hX hbl hbA hS (iv_in (i := v_1) (by omega) (by omega)) dL_law_303 ?_
  refine lv_topi (fun v_2 ev_2 => ?_)
  clear ev_2
  refine lv_aload_n hx hb dL_law_304 rfl (lv_at hl 4 rfl) ?_
  refine lv_iload hx hb dL_law_305 (lv_at hl 0 rfl) ?_
  refine lv_iconst (v := 2) hx hb dL_law_307 (by decide) ?_
  refine lv_iadd hx hb dL_law_308 ?_
  refine lv_topi (fun v_3 ev_3 => ?_)
  have hv_3 : v_3.toInt = i.toInt + 2 := by rw [ev_3]; exact (iv_add (by omega) (by omega)).trans (by omega)
  clear ev_3
  refine va_sld hx hb hX hbl hbA hS (iv_in (i := v_3) (by omega) (by omega)) dL_law_309 ?_
  refine lv_topi (fun v_4 ev_4 => ?_)
  clear ev_4
  refine lv_aload_n hx hb dL_law_310 rfl (lv_at hl 1 rfl) ?_
  refine W_read (fun hu1 hu2 => ?_)
  have hFc := vfree hDZ hS hA
  refine va_calli (vx_runSW (As := [.ref (c 100), .int v_2, .int v_4, .ref oa]) (rest := []) ⟨hx, hb, hml, hown, hts⟩ (h_L_change l hl0 dC dI c kc st lg ai al R cap num oa ko fo v_2 v_4 _ _ hI) (vx_cwSW 4 hts gL_law_L_change rfl rfl rfl (by decide +kernel) ⟨Nat.le_of_ble_eq_true rfl, Nat.le_of_ble_eq_true rfl⟩) ⟨fun a U g mk q => by obtain ⟨q0, q1, q2, qP, qK, qO, qD, qG⟩ := q; exact ⟨q0, q1, q2, qP, va_K.moved (u := U) (U := U.calling g mk a) (Vm.Alike.refl U.vm) qK, va_K.moved (u := U) (U := U.calling g mk a) (Vm.Alike.refl U.vm) qO, qD, qG.same rfl rfl⟩, fun U hU hW => ⟨rfl, by rw [hU], by rw [hU], by rw [hU]; exact hPZ, va_K.moved hW.alike hK, va_K.moved hW.alike hKo, hDZ.weaken (fun _ _ _ _ => trivial), hY.go hW hU hS hFc (fun h => ⟨rfl, hcE h⟩)⟩⟩ rfl rfl hl.1 rfl (lv_room (Nat.le_of_ble_eq_true rfl)) dL_law_311 ⟨by show K0 + 2 ≤ 601024; omega, by show M0 + 12 ≤ 7293000; omega⟩) hS (fun q _ h => hFc q h) hFc (fun r u t H1 locs ht hvm er hB hz1 hk1 hS => ?_)
  subst er
  obtain ⟨e9, st9, lg9, ai9, al9, R9, cap9, num9, f9, hI9, hc9, hcp9, hn1, hn2, hs1, hs2, hP9, hD9⟩ := hB
  have hN9 : (cap9 : Int) ≤ 10 + 2 * (st9 13).toInt := by have hI := hI9; obtain ⟨⟨hf3a, hf3b⟩, ⟨hf5a, hf5b⟩, ⟨hf6a, hf6b⟩, ⟨hf9a, hf9b⟩, ⟨hf13a, hf13b⟩, ⟨hf15a, hf15b⟩, ⟨hf17a, hf17b⟩, ⟨hf25a, hf25b⟩, ⟨hf26a, hf26b⟩, ⟨hf27a, hf27b⟩, ⟨hf28a, hf28b⟩, ⟨hf37a, hf37b⟩, hR4, hR7, hR23, hR32, hR33, hPI, hN⟩ := hI; exact hN.1
  have hb9 : (st9 13).toInt ≤ 65536 := by have hI := hI9; obtain ⟨⟨hf3a, hf3b⟩, ⟨hf5a, hf5b⟩, ⟨hf6a, hf6b⟩, ⟨hf9a, hf9b⟩, ⟨hf13a, hf13b⟩, ⟨hf15a, hf15b⟩, ⟨hf17a, hf17b⟩, ⟨hf25a, hf25b⟩, ⟨hf26a, hf26b⟩, ⟨hf27a, hf27b⟩, ⟨hf28a, hf28b⟩, ⟨hf37a, hf37b⟩, hR4, hR7, hR23, hR32, hR33, hPI, hN⟩ := hI; exact hf13b
  rw [ht] at hP9 hs1 hs2
  have hdj9 := dj_new hPY hdj hD9
  have hPY := dj_keep hPY hdj hk1
  have hdj := hdj9
  have hDZ := hD9.weaken (fun _ _ _ h => hFc _ h)
  have hPZ := hP9
  have hcE : cap9 = 0 → (rU c 99 e9) 99 = e0 := fun h => (show e9 = e0 from (hc9 h).2.trans (hcE (hc9 h).1))
  obtain ⟨K1, hK1⟩ : ∃ k9 : Nat, (k9 : Int) = (K0 : Int) + 3 + 3 * ((st9 13).toInt - (st 13).toInt) := ⟨((K0 : Int) + 3 + 3 * ((st9 13).toInt - (st 13).toInt)).toNat, by omega⟩
  obtain ⟨M1, hM1⟩ : ∃ m9 : Nat, (m9 : Int) = (M0 : Int) + 18 + 29 * ((st9 13).toInt - (st 13).toInt) + 4 * ((cap9 : Int) - (cap : Int)) := ⟨((M0 : Int) + 18 + 29 * ((st9 13).toInt - (st 13).toInt) + 4 * ((cap9 : Int) - (cap : Int))).toNat, by omega⟩
  refine W_tight (k' := K1) (m' := M1) (by omega) (by omega) ?_
  clear hz1 hk1 hvm hs1 hs2 hu1 hu2 hP9 hD9 hdj9 hFc
  subst ht
  generalize t.heap = H at hPZ hPY hS ⊢
  refine lv_topi (fun r er9 => ?_)
  clear er9
  refine lv_istore (lv' := [(5, .int r), (4, .int i), (3, .ref oa), (2, .ref o), (1, .ref (c 100)), (0, .ref b)]) hx hb dL_law_314 hl (by decide) rfl (fun ls hl => ?_)
  refine lv_aload_n hx hb dL_law_316 rfl (lv_at hl 3 rfl) ?_
  refine lv_aload_n hx hb dL_law_317 rfl (lv_at hl 5 rfl) ?_
  refine lv_iload hx hb dL_law_318 (lv_at hl 1 rfl) ?_
  refine lv_iconst (v := 1) hx hb dL_law_320 (by decide) ?_
  refine lv_iadd hx hb dL_law_321 ?_
  refine lv_topi (fun v_5 ev_5 => ?_)
  have hv_5 : v_5.toInt = i.toInt + 1 := by rw [ev_5]; exact (iv_add (by omega) (by omega)).trans (by omega)
  clear ev_5
  refine va_sld hx hb hX hbl hbA hS (iv_in (i := v_5) (by omega) (by omega)) dL_law_322 ?_
  refine lv_topi (fun v_6 ev_6 => ?_)
  clear ev_6
  refine lv_aload_n hx hb dL_law_323 rfl (lv_at hl 5 rfl) ?_
  refine lv_iload hx hb dL_law_324 (lv_at hl 1 rfl) ?_
  refine lv_iconst (v := 2) hx hb dL_law_326 (by decide) ?_
  refine lv_iadd hx hb dL_law_327 ?_
  refine lv_topi (fun v_7 ev_7 => ?_)
  have hv_7 : v_7.toInt = i.toInt + 2 := by rw [ev_7]; exact (iv_add (by omega) (by omega)).trans (by omega)
  clear ev_7
  refine va_sld hx hb hX hbl hbA hS (iv_in (i := v_7) (by omega) (by omega)) dL_law_328 ?_
  refine lv_topi (fun v_8 ev_8 => ?_)
  clear ev_8
  have hFc := vfree (rw_D hDY : va_D A (rw_W o cR kR stR lgR aiR alR)) hS hA
  refine va_calli (va_runV (As := [.int v_6, .int v_8]) (rest := []) ⟨hx, hb, hml, hown, hts⟩ (v_X9_change l dC dI o cR kR stR lgR aiR alR v_6 v_8 _ (show 1 ≤ (stR 1).toInt from rf1a) (show (stR 1).toInt ≤ 65536 from rf1b) (show 0 ≤ (stR 3).toInt from rf3a) (show (stR 3).toInt ≤ 1 from rf3b) (show 0 ≤ (stR 12).toInt from rf12a) (show (stR 12).toInt ≤ 8 from rf12b)) (cwV 2 hts gL_law_X9_change rfl rfl rfl (by decide +kernel) ⟨Nat.le_of_ble_eq_true rfl, Nat.le_of_ble_eq_true rfl⟩) ⟨fun a U g mk q => by obtain ⟨q0, q1, qP, qK, qD⟩ := q; exact ⟨q0, q1, qP, va_K.moved (u := U) (U := U.calling g mk a) (Vm.Alike.refl U.vm) qK, qD⟩, va_recv hKR hPY (ci := 11) (q := (RX9, TX9, 38)) rfl (q0 := 0) rfl, fun U hU hW => ⟨rfl, by rw [hU], by rw [hU]; exact hPY, va_K.moved hW.alike hKR, (rw_D hDY).weaken (fun _ _ _ _ => trivial)⟩⟩ rfl rfl hl.1 rfl (lv_room (Nat.le_of_ble_eq_true rfl)) dL_law_329 ⟨by show K1 + 0 ≤ 601024; omega, by show M1 + 0 ≤ 7293000; omega⟩) hS (fun q _ h => hFc q h) hFc (fun r_9 u t H1 locs ht hvm er_9 hB hz1 hk1 hS => ?_)
  subst er_9
  obtain ⟨x12_9, x13_9, f10_9, g11_9, y90_9, y91_9, hP1⟩ := hB
  rw [ht] at hP1
  have hPZ := dj_keep hPZ (dj_sym (rw_dj (lg' := lgR) (st' := stR) (ai' := aiR) (al' := alR) hdj)) hk1
  clear hPY hz1 hk1 hvm hFc
  subst ht
  have hPY := hP1
  clear hP1
  generalize t.heap = H at hPY hPZ hS ⊢
  have hPY : va_P (dC, dI) vwCl (rw_W o cR kR (rU (rU stR 12 x12_9) 13 x13_9) lgR (rU aiR 10 f10_9) (rU alR 11 g11_9)) H := hPY
  have rf12a : 0 ≤ x12_9.toInt := y90_9
  have rf12b : x12_9.toInt ≤ 8 := y91_9
  refine lv_istore (lv' := [(6, .int r_9), (5, .int r), (4, .int i), (3, .ref oa), (2, .ref o), (1, .ref (c 100)), (0, .ref b)]) hx hb dL_law_332 hl (by decide) rfl (fun ls hl => ?_)
  refine lv_goto (tgt := 1103) hx hb dL_law_334 (by decide) ?_
  exact kk e9 st9 lg9 ai9 al9 R9 cap9 num9 f9 (rU (rU stR 12 x12_9) 13 x13_9) lgR (rU aiR 10 f10_9) (rU alR 11 g11_9) _ locs ls K1 M1 ⟨hI9, ⟨⟨rf1a, rf1b⟩, ⟨rf2a, rf2b⟩, ⟨rf3a, rf3b⟩, ⟨rf6a, rf6b⟩, ⟨rf7a, rf7b⟩, ⟨rf9a, rf9b⟩, ⟨rf12a, rf12b⟩, ⟨rf15a, rf15b⟩, ⟨rf16a, rf16b⟩, ⟨rf17a, rf17b⟩, ⟨rf21a, rf21b⟩, ⟨rf22a, rf22b⟩, ⟨rf24a, rf24b⟩, ⟨rf26a, rf26b⟩, ⟨rf30a, rf30b⟩, ⟨rf32a, rf32b⟩, ⟨rf37a, rf37b⟩, rR8, rR25, rR31, rR35⟩, hcE, hPZ, hDZ, hPY, rw_D hDY, rw_dj hdj, hS⟩ (lv_sub hl [2, 3, 4, 5, 6] rfl) hcp9 (show (st 13).toInt ≤ (st9 13).toInt by omega) (show (st9 13).toInt ≤ (st 13).toInt + 16 by omega) (by omega) (by omega)

set_option maxHeartbeats 4000000 in
set_option maxRecDepth 100000 in
theorem lwq_5 {p : Program} {e : Env} {s : State} {m : MethodId} {below : List Frame} {meth : Method} {cM : Code} (l : Launch) (hl0 : l.stackTraces = false) {A : Nat → Prop} {dC : Nat → ClassId} {dI : Nat → Nat → Nat} {b L e0 : Nat} {xs : Nat → Int32} (kc kR : Nat → ClassId) (ko : ClassId) (oa o : Nat) (cR : Nat → Nat) (c : Nat → Nat) (st : Nat → Int32) (lg : Nat → Int64) (ai : Nat → Nat → Int32) (al : Nat → Nat → Int64) (R : va_W) (cap : Nat) (num : Nat → Int32) (fo : Nat → Int64) (stR : Nat → Int32) (lgR : Nat → Int64) (aiR : Nat → Nat → Int32) (alR : Nat → Nat → Int64) (H : Heap) (locs : List Loc) (ls : Array Slot) (i : Int32) (K0 M0 : Nat) (C0 : lwB p s m meth cM b L xs A e0) (hK : va_K (dC, dI) vwCl (cw_T kc) s) (hKo : va_K (dC, dI) vwCl [(ko, .long)] s) (hKR : va_K (dC, dI) vwCl (rw_T kR) s) (hS0 : lwS (dC, dI) A s e0 kc kR ko oa o cR c st lg ai al R cap num fo stR lgR aiR alR H locs) (hl : lv_has ls 8 [(4, .int i), (3, .ref oa), (2, .ref o), (1, .ref (c 100)), (0, .ref b)]) (hi : 1 ≤ i.toInt) (hi2 : i.toInt + 4 < (L : Int)) (hL : L ≤ 2561) (hK0 : K0 + 100 ≤ 601024) (hM0 : M0 + 1200000 ≤ 7293000) (kk : ∀ (e9 : Nat) (st9 : Nat → Int32) (lg9 : Nat → Int64) (ai9 : Nat → Nat → Int32) (al9 : Nat → Nat → Int64) (R9 : va_W) (cap9 : Nat) (num9 : Nat → Int32) (f9 : Nat → Int64) (sR9 : Nat → Int32) (lR9 : Nat → Int64) (aR9 : Nat → Nat → Int32) (bR9 : Nat → Nat → Int64) (H : Heap) (locs : List Loc) (ls : Array Slot) (K9 M9 : Nat), lwS (dC, dI) A s e0 kc kR ko oa o cR (rU c 99 e9) st9 lg9 ai9 al9 R9 cap9 num9 f9 sR9 lR9 aR9 bR9 H locs → lv_has ls 8 [(4, .int i), (3, .ref oa), (2, .ref o), (1, .ref (c 100)), (0, .ref b)] → cap ≤ cap9 → (st 13).toInt ≤ (st9 13).toInt → (st9 13).toInt ≤ (st 13).toInt + 16 → (K9 : Int) ≤ (K0 : Int) + 3 + 3 * ((st9 13).toInt - (st 13).toInt) → (M9 : Int) ≤ (M0 : Int) + 18 + 29 * ((st9 13).toInt - (st 13).toInt) + 4 * ((cap9 : Int) - (cap : Int)) → W p l e room_1 s m #[Value.ref b] below meth cM H locs K9 M9 (lw_Z below #[Value.ref b] s) (F0 m 1103 ls [])) : W p l e room_1 s m #[Value.ref b] below meth cM H locs K0 M0 (lw_Z below #[Value.ref b] s) (F0 m 337 ls []) := by
  obtain ⟨hx, hb, hr, hml, hown, hts, hX, hbl, hlocks, hA, hA9, hbA, hY⟩ := C0
  obtain ⟨hI, hJ, hcE, hPZ, hDZ, hPY, hDY, hdj, hS⟩ := hS0
  obtain ⟨⟨rf1a, rf1b⟩, ⟨rf2a, rf2b⟩, ⟨rf3a, rf3b⟩, ⟨rf6a, rf6b⟩, ⟨rf7a, rf7b⟩, ⟨rf9a, rf9b⟩, ⟨rf12a, rf12b⟩, ⟨rf15a, rf15b⟩, ⟨rf16a, rf16b⟩, ⟨rf17a, rf17b⟩, ⟨rf21a, rf21b⟩, ⟨rf22a, rf22b⟩, ⟨rf24a, rf24b⟩, ⟨rf26a, rf26b⟩, ⟨rf30a, rf30b⟩, ⟨rf32a, rf32b⟩, ⟨rf37a, rf37b⟩, rR8, rR25, rR31, rR35⟩ := hJ
  have hG := hY.1
  have hGW := hG.1
  have z_1 : (1 : Int32).toInt = 1 := by decide
  have z_2 : (2 : Int32).toInt = 2 := by decide
  have z_3 : (3 : Int32).toInt = 3 := by decide
  have z_32 : (32 : Int32).toInt = 32 := by decide
  refine lv_aload_n hx hb dL_law_337 rfl (lv_at hl 3 rfl) ?_
  refine lv_aload_n hx hb dL_law_338 rfl (lv_at hl 4 rfl) ?_
  refine lv_iload hx hb dL_law_339 (lv_at hl 0 rfl) ?_
  refine lv_iconst (v := 1) hx hb dL_law_341 (by decide) ?_
  refine lv_iadd hx hb dL_law_342 ?_
  refine lv_topi (fun v_1 ev_1 => ?_)
  have rg1 := iv_rng i
  have hv_1 : v_1.toInt = i.toInt + 1 := by rw [ev_1]; exact (iv_add (by omega) (by omega)).trans (by omega)
  clear ev_1
  refine va_sld hx hb hX hbl hbA hS (iv_in (i := v_1) (by omega) (by omega)) dL_law_343 ?_
  refine lv_topi (fun v_2 ev_2 => ?_)
  clear ev_2
  refine lv_aload_n hx hb dL_law_344 rfl (lv_at hl 4 rfl) ?_
  refine lv_iload hx hb dL_law_345 (lv_at hl 0 rfl) ?_
  refine lv_iconst (v := 2) hx hb dL_law_347 (by decide) ?_
  refine lv_iadd hx hb dL_law_348 ?_
  refine lv_topi (fun v_3 ev_3 => ?_)
  have hv_3 : v_3.toInt = i.toInt + 2 := by rw [ev_3]; exact (iv_add (by omega) (by omega)).trans (by omega)
  clear ev_3
  refine va_sld hx hb hX hbl hbA hS (iv_in (i := v_3) (by omega) (by omega)) dL_law_349 ?_
  refine lv_topi (fun v_4 ev_4 => ?_)
  clear ev_4
  refine lv_i2l hx hb dL_law_350 rfl ?_
  refine lv_topl (fun w_5 ew_5 => ?_)
  clear ew_5
  refine lv_bipush (v := 32) hx hb dL_law_351 (by decide) ?_
  refine lv_lshl hx hb dL_law_353 rfl ?_
  refine lv_topl (fun w_6 ew_6 => ?_)
  clear ew_6
  refine lv_aload_n hx hb dL_law_354 rfl (lv_at hl 4 rfl) ?_
  refine lv_iload hx hb dL_law_355 (lv_at hl 0 rfl) ?_
  refine lv_iconst (v := 3) hx hb dL_law_357 (by decide) ?_
  refine lv_iadd hx hb dL_law_358 ?_
  refine lv_topi (fun v_7 ev_7 => ?_)
  have hv_7 : v_7.toInt = i.toInt + 3 := by rw [ev_7]; exact (iv_add (by omega) (by omega)).trans (by omega)
  clear ev_7
  refine va_sld hx hb hX hbl hbA hS (iv_in (i := v_7) (by omega) (by omega)) dL_law_359 ?_
  refine lv_topi (fun v_8 ev_8 => ?_)
  clear ev_8
  refine lv_i2l hx hb dL_law_360 rfl ?_
  refine lv_topl (fun w_9 ew_9 => ?_)
  clear ew_9
  refine lv_ldc2 hx hb hown (hts (.constantLong RL 106 (4294967295)) (by decide +kernel)) dL_law_361 ?_
  refine lv_land hx hb dL_law_364 ?_
  refine lv_topl (fun w_10 ew_10 => ?_)
  clear ew_10
  refine lv_lor hx hb dL_law_365 ?_
  refine lv_topl (fun w_11 ew_11 => ?_)
  clear ew_11
  refine lv_aload_n hx hb dL_law_366 rfl (lv_at hl 1 rfl) ?_
  refine W_read (fun hu1 hu2 => ?_)
  have hFc := vfree hDZ hS hA
  refine va_calli (vx_runSW (As := [.ref (c 100), .int v_2, .long w_11, .ref oa]) (rest := []) ⟨hx, hb, hml, hown, hts⟩ (h_L_block l hl0 dC dI c kc st lg ai al R cap num oa ko fo v_2 w_11 _ _ hI) (vx_cwSW 4 hts gL_law_L_block rfl rfl rfl (by decide +kernel) ⟨Nat.le_of_ble_eq_true rfl, Nat.le_of_ble_eq_true rfl⟩) ⟨fun a U g mk q => by obtain ⟨q0, q1, q2, qP, qK, qO, qD, qG⟩ := q; exact ⟨q0, q1, q2, qP, va_K.moved (u := U) (U := U.calling g mk a) (Vm.Alike.refl U.vm) qK, va_K.moved (u := U) (U := U.calling g mk a) (Vm.Alike.refl U.vm) qO, qD, qG.same rfl rfl⟩, fun U hU hW => ⟨rfl, by rw [hU], by rw [hU], by rw [hU]; exact hPZ, va_K.moved hW.alike hK, va_K.moved hW.alike hKo, hDZ.weaken (fun _ _ _ _ => trivial), hY.go hW hU hS hFc (fun h => ⟨rfl, hcE h⟩)⟩⟩ rfl rfl hl.1 rfl (lv_room (Nat.le_of_ble_eq_true rfl)) dL_law_367 ⟨by show K0 + 2 ≤ 601024; omega, by show M0 + 12 ≤ 7293000; omega⟩) hS (fun q _ h => hFc q h) hFc (fun r u t H1 locs ht hvm er hB hz1 hk1 hS => ?_)
  subst er
  obtain ⟨e9, st9, lg9, ai9, al9, R9, cap9, num9, f9, hI9, hc9, hcp9, hn1, hn2, hs1, hs2, hP9, hD9⟩ := hB
  have hN9 : (cap9 : Int) ≤ 10 + 2 * (st9 13).toInt := by have hI := hI9; obtain ⟨⟨hf3a, hf3b⟩, ⟨hf5a, hf5b⟩, ⟨hf6a, hf6b⟩, ⟨hf9a, hf9b⟩, ⟨hf13a, hf13b⟩, ⟨hf15a, hf15b⟩, ⟨hf17a, hf17b⟩, ⟨hf25a, hf25b⟩, ⟨hf26a, hf26b⟩, ⟨hf27a, hf27b⟩, ⟨hf28a, hf28b⟩, ⟨hf37a, hf37b⟩, hR4, hR7, hR23, hR32, hR33, hPI, hN⟩ := hI; exact hN.1
  have hb9 : (st9 13).toInt ≤ 65536 := by have hI := hI9; obtain ⟨⟨hf3a, hf3b⟩, ⟨hf5a, hf5b⟩, ⟨hf6a, hf6b⟩, ⟨hf9a, hf9b⟩, ⟨hf13a, hf13b⟩, ⟨hf15a, hf15b⟩, ⟨hf17a, hf17b⟩, ⟨hf25a, hf25b⟩, ⟨hf26a, hf26b⟩, ⟨hf27a, hf27b⟩, ⟨hf28a, hf28b⟩, ⟨hf37a, hf37b⟩, hR4, hR7, hR23, hR32, hR33, hPI, hN⟩ := hI; exact hf13b
  rw [ht] at hP9 hs1 hs2
  have hdj9 := dj_new hPY hdj hD9
  have hPY := dj_keep hPY hdj hk1
  have hdj := hdj9
  have hDZ := hD9.weaken (fun _ _ _ h => hFc _ h)
  have hPZ := hP9
  have hcE : cap9 = 0 → (rU c 99 e9) 99 = e0 := fun h => (show e9 = e0 from (hc9 h).2.trans (hcE (hc9 h).1))
  obtain ⟨K1, hK1⟩ : ∃ k9 : Nat, (k9 : Int) = (K0 : Int) + 3 + 3 * ((st9 13).toInt - (st 13).toInt) := ⟨((K0 : Int) + 3 + 3 * ((st9 13).toInt - (st 13).toInt)).toNat, by omega⟩
  obtain ⟨M1, hM1⟩ : ∃ m9 : Nat, (m9 : Int) = (M0 : Int) + 18 + 29 * ((st9 13).toInt - (st 13).toInt) + 4 * ((cap9 : Int) - (cap : Int)) := ⟨((M0 : Int) + 18 + 29 * ((st9 13).toInt - (st 13).toInt) + 4 * ((cap9 : Int) - (cap : Int))).toNat, by omega⟩
  refine W_tight (k' := K1) (m' := M1) (by omega) (by omega) ?_
  clear hz1 hk1 hvm hs1 hs2 hu1 hu2 hP9 hD9 hdj9 hFc
  subst ht
  generalize t.heap = H at hPZ hPY hS ⊢
  refine lv_topi (fun r er9 => ?_)
  clear er9
  refine lv_istore (lv' := [(5, .int r), (4, .int i), (3, .ref oa), (2, .ref o), (1, .ref (c 100)), (0, .ref b)]) hx hb dL_law_370 hl (by decide) rfl (fun ls hl => ?_)
  refine lv_aload_n hx hb dL_law_372 rfl (lv_at hl 3 rfl) ?_
  refine lv_aload_n hx hb dL_law_373 rfl (lv_at hl 5 rfl) ?_
  refine lv_iload hx hb dL_law_374 (lv_at hl 1 rfl) ?_
  refine lv_iconst (v := 1) hx hb dL_law_376 (by decide) ?_
  refine lv_iadd hx hb dL_law_377 ?_
  refine lv_topi (fun v_12 ev_12 => ?_)
  have hv_12 : v_12.toInt = i.toInt + 1 := by rw [ev_12]; exact (iv_add (by omega) (by omega)).trans (by omega)
  clear ev_12
  refine va_sld hx hb hX hbl hbA hS (iv_in (i := v_12) (by omega) (by omega)) dL_law_378 ?_
  refine lv_topi (fun v_13 ev_13 => ?_)
  clear ev_13
  refine lv_aload_n hx hb dL_law_379 rfl (lv_at hl 5 rfl) ?_
  refine lv_iload hx hb dL_law_380 (lv_at hl 1 rfl) ?_
  refine lv_iconst (v := 2) hx hb dL_law_382 (by decide) ?_
  refine lv_iadd hx hb dL_law_383 ?_
  refine lv_topi (fun v_14 ev_14 => ?_)
  have hv_14 : v_14.toInt = i.toInt + 2 := by rw [ev_14]; exact (iv_add (by omega) (by omega)).trans (by omega)
  clear ev_14
  refine va_sld hx hb hX hbl hbA hS (iv_in (i := v_14) (by omega) (by omega)) dL_law_384 ?_
  refine lv_topi (fun v_15 ev_15 => ?_)
  clear ev_15
  refine lv_i2l hx hb dL_law_385 rfl ?_
  refine lv_topl (fun w_16 ew_16 => ?_)
  clear ew_16
  refine lv_bipush (v := 32) hx hb dL_law_386 (by decide) ?_
  refine lv_lshl hx hb dL_law_388 rfl ?_
  refine lv_topl (fun w_17 ew_17 => ?_)
  clear ew_17
  refine lv_aload_n hx hb dL_law_389 rfl (lv_at hl 5 rfl) ?_
  refine lv_iload hx hb dL_law_390 (lv_at hl 1 rfl) ?_
  refine lv_iconst (v := 3) hx hb dL_law_392 (by decide) ?_
  refine lv_iadd hx hb dL_law_393 ?_
  refine lv_topi (fun v_18 ev_18 => ?_)
  have hv_18 : v_18.toInt = i.toInt + 3 := by rw [ev_18]; exact (iv_add (by omega) (by omega)).trans (by omega)
  clear ev_18
  refine va_sld hx hb hX hbl hbA hS (iv_in (i := v_18) (by omega) (by omega)) dL_law_394 ?_
  refine lv_topi (fun v_19 ev_19 => ?_)
  clear ev_19
  refine lv_i2l hx hb dL_law_395 rfl ?_
  refine lv_topl (fun w_20 ew_20 => ?_)
  clear ew_20
  refine lv_ldc2 hx hb hown (hts (.constantLong RL 106 (4294967295)) (by decide +kernel)) dL_law_396 ?_
  refine lv_land hx hb dL_law_399 ?_
  refine lv_topl (fun w_21 ew_21 => ?_)
  clear ew_21
  refine lv_lor hx hb dL_law_400 ?_
  refine lv_topl (fun w_22 ew_22 => ?_)
  clear ew_22
  have hFc := vfree (rw_D hDY : va_D A (rw_W o cR kR stR lgR aiR alR)) hS hA
  refine va_calli (va_runV (As := [.int v_13, .long w_22]) (rest := []) ⟨hx, hb, hml, hown, hts⟩ (v_X9_block l dC dI o cR kR stR lgR aiR alR v_13 w_22 _ (show 0 ≤ (stR 3).toInt from rf3a) (show (stR 3).toInt ≤ 1 from rf3b) (show 0 ≤ (stR 6).toInt from rf6a) (show (stR 6).toInt ≤ 1 from rf6b) (show 0 ≤ (stR 7).toInt from rf7a) (show (stR 7).toInt ≤ 1 from rf7b) (show 0 ≤ (stR 12).toInt from rf12a) (show (stR 12).toInt ≤ 8 from rf12b) (show 0 ≤ (stR 15).toInt from rf15a) (show (stR 15).toInt ≤ 128 from rf15b) (show 0 ≤ (stR 16).toInt from rf16a) (show (stR 16).toInt ≤ 128 from rf16b) (show 0 ≤ (stR 17).toInt from rf17a) (show (stR 17).toInt ≤ 1 from rf17b) (show -1 ≤ (stR 21).toInt from rf21a) (show (stR 21).toInt ≤ 127 from rf21b) (show 0 ≤ (stR 22).toInt from rf22a) (show (stR 22).toInt ≤ 1000000 from rf22b) (show 0 ≤ (stR 24).toInt from rf24a) (show (stR 24).toInt ≤ 1 from rf24b) (show 0 ≤ (stR 26).toInt from rf26a) (show (stR 26).toInt ≤ 2000000 from rf26b) (show aR (aiR 25) 130 (0) 127 from rR25)) (cwV 2 hts gL_law_X9_block rfl rfl rfl (by decide +kernel) ⟨Nat.le_of_ble_eq_true rfl, Nat.le_of_ble_eq_true rfl⟩) ⟨fun a U g mk q => by obtain ⟨q0, q1, qP, qK, qD⟩ := q; exact ⟨q0, q1, qP, va_K.moved (u := U) (U := U.calling g mk a) (Vm.Alike.refl U.vm) qK, qD⟩, va_recv hKR hPY (ci := 11) (q := (RX9, TX9, 38)) rfl (q0 := 0) rfl, fun U hU hW => ⟨rfl, by rw [hU], by rw [hU]; exact hPY, va_K.moved hW.alike hKR, (rw_D hDY).weaken (fun _ _ _ _ => trivial)⟩⟩ rfl rfl hl.1 rfl (lv_room (Nat.le_of_ble_eq_true rfl)) dL_law_401 ⟨by show K1 + 0 ≤ 601024; omega, by show M1 + 0 ≤ 7293000; omega⟩) hS (fun q _ h => hFc q h) hFc (fun r_23 u t H1 locs ht hvm er_23 hB hz1 hk1 hS => ?_)
  subst er_23
  obtain ⟨x3_23, x4_23, x5_23, x6_23, x12_23, x13_23, x15_23, x16_23, x17_23, x21_23, x22_23, x24_23, x26_23, y23_23, y27_23, f0_23, f14_23, f19_23, f20_23, f25_23, g18_23, y90_23, y91_23, y92_23, y93_23, y94_23, y95_23, y96_23, y97_23, y98_23, y99_23, y910_23, y911_23, y912_23, y913_23, y914_23, y915_23, y916_23, y917_23, y918_23, y919_23, rR25, hP1⟩ := hB
  rw [ht] at hP1
  have hPZ := dj_keep hPZ (dj_sym (rw_dj (lg' := lgR) (st' := stR) (ai' := aiR) (al' := alR) hdj)) hk1
  clear hPY hz1 hk1 hvm hFc
  subst ht
  have hPY := hP1
  clear hP1
  generalize t.heap = H at hPY hPZ hS ⊢
  have hPY : va_P (dC, dI) vwCl (rw_W o cR kR (rU (rU (rU (rU (rU (rU (rU (rU (rU (rU (rU (rU (rU stR 3 x3_23) 4 x4_23) 5 x5_23) 6 x6_23) 12 x12_23) 13 x13_23) 15 x15_23) 16 x16_23) 17 x17_23) 21 x21_23) 22 x22_23) 24 x24_23) 26 x26_23) (rU (rU lgR 23 y23_23) 27 y27_23) (rU (rU (rU (rU (rU aiR 0 f0_23) 14 f14_23) 19 f19_23) 20 f20_23) 25 f25_23) (rU alR 18 g18_23)) H := hPY
  have rf3a : 0 ≤ x3_23.toInt := y90_23
  have rf3b : x3_23.toInt ≤ 1 := y91_23
  have rf6a : 0 ≤ x6_23.toInt := y92_23
  have rf6b : x6_23.toInt ≤ 1 := y93_23
  have rf12a : 0 ≤ x12_23.toInt := y94_23
  have rf12b : x12_23.toInt ≤ 8 := y95_23
  have rf15a : 0 ≤ x15_23.toInt := y96_23
  have rf15b : x15_23.toInt ≤ 128 := y97_23
  have rf16a : 0 ≤ x16_23.toInt := y98_23
  have rf16b : x16_23.toInt ≤ 128 := y99_23
  have rf17a : 0 ≤ x17_23.toInt := y910_23
  have rf17b : x17_23.toInt ≤ 1 := y911_23
  have rf21a : -1 ≤ x21_23.toInt := y912_23
  have rf21b : x21_23.toInt ≤ 127 := y913_23
  have rf22a : 0 ≤ x22_23.toInt := y914_23
  have rf22b : x22_23.toInt ≤ 1000000 := y915_23
  have rf24a : 0 ≤ x24_23.toInt := y916_23
  have rf24b : x24_23.toInt ≤ 1 := y917_23
  have rf26a : 0 ≤ x26_23.toInt := y918_23
  have rf26b : x26_23.toInt ≤ 2000000 := y919_23
  have rR25 : aR f25_23 130 (0) 127 := rR25
  refine lv_istore (lv' := [(6, .int r_23), (5, .int r), (4, .int i), (3, .ref oa), (2, .ref o), (1, .ref (c 100)), (0, .ref b)]) hx hb dL_law_404 hl (by decide) rfl (fun ls hl => ?_)
  refine lv_goto (tgt := 1103) hx hb dL_law_406 (by decide) ?_
  exact kk e9 st9 lg9 ai9 al9 R9 cap9 num9 f9 (rU (rU (rU (rU (rU (rU (rU (rU (rU (rU (rU (rU (rU stR 3 x3_23) 4 x4_23) 5 x5_23) 6 x6_23) 12 x12_23) 13 x13_23) 15 x15_23) 16 x16_23) 17 x17_23) 21 x21_23) 22 x22_23) 24 x24_23) 26 x26_23) (rU (rU lgR 23 y23_23) 27 y27_23) (rU (rU (rU (rU (rU aiR 0 f0_23) 14 f14_23) 19 f19_23) 20 f20_23) 25 f25_23) (rU alR 18 g18_23) _ locs ls K1 M1 ⟨hI9, ⟨⟨rf1a, rf1b⟩, ⟨rf2a, rf2b⟩, ⟨rf3a, rf3b⟩, ⟨rf6a, rf6b⟩, ⟨rf7a, rf7b⟩, ⟨rf9a, rf9b⟩, ⟨rf12a, rf12b⟩, ⟨rf15a, rf15b⟩, ⟨rf16a, rf16b⟩, ⟨rf17a, rf17b⟩, ⟨rf21a, rf21b⟩, ⟨rf22a, rf22b⟩, ⟨rf24a, rf24b⟩, ⟨rf26a, rf26b⟩, ⟨rf30a, rf30b⟩, ⟨rf32a, rf32b⟩, ⟨rf37a, rf37b⟩, rR8, rR25, rR31, rR35⟩, hcE, hPZ, hDZ, hPY, rw_D hDY, rw_dj hdj, hS⟩ (lv_sub hl [2, 3, 4, 5, 6] rfl) hcp9 (show (st 13).toInt ≤ (st9 13).toInt by omega) (show (st9 13).toInt ≤ (st 13).toInt + 16 by omega) (by omega) (by omega)

set_option maxHeartbeats 4000000 in
set_option maxRecDepth 100000 in
theorem lwq_6 {p : Program} {e : Env} {s : State} {m : MethodId} {below : List Frame} {meth : Method} {cM : Code} (l : Launch) (hl0 : l.stackTraces = false) {A : Nat → Prop} {dC : Nat → ClassId} {dI : Nat → Nat → Nat} {b L e0 : Nat} {xs : Nat → Int32} (kc kR : Nat → ClassId) (ko : ClassId) (oa o : Nat) (cR : Nat → Nat) (c : Nat → Nat) (st : Nat → Int32) (lg : Nat → Int64) (ai : Nat → Nat → Int32) (al : Nat → Nat → Int64) (R : va_W) (cap : Nat) (num : Nat → Int32) (fo : Nat → Int64) (stR : Nat → Int32) (lgR : Nat → Int64) (aiR : Nat → Nat → Int32) (alR : Nat → Nat → Int64) (H : Heap) (locs : List Loc) (ls : Array Slot) (i : Int32) (K0 M0 : Nat) (C0 : lwB p s m meth cM b L xs A e0) (hK : va_K (dC, dI) vwCl (cw_T kc) s) (hKo : va_K (dC, dI) vwCl [(ko, .long)] s) (hKR : va_K (dC, dI) vwCl (rw_T kR) s) (hS0 : lwS (dC, dI) A s e0 kc kR ko oa o cR c st lg ai al R cap num fo stR lgR aiR alR H locs) (hl : lv_has ls 8 [(4, .int i), (3, .ref oa), (2, .ref o), (1, .ref (c 100)), (0, .ref b)]) (hi : 1 ≤ i.toInt) (hi2 : i.toInt + 4 < (L : Int)) (hL : L ≤ 2561) (hK0 : K0 + 100 ≤ 601024) (hM0 : M0 + 1200000 ≤ 7293000) (kk : ∀ (e9 : Nat) (st9 : Nat → Int32) (lg9 : Nat → Int64) (ai9 : Nat → Nat → Int32) (al9 : Nat → Nat → Int64) (R9 : va_W) (cap9 : Nat) (num9 : Nat → Int32) (f9 : Nat → Int64) (sR9 : Nat → Int32) (lR9 : Nat → Int64) (aR9 : Nat → Nat → Int32) (bR9 : Nat → Nat → Int64) (H : Heap) (locs : List Loc) (ls : Array Slot) (K9 M9 : Nat), lwS (dC, dI) A s e0 kc kR ko oa o cR (rU c 99 e9) st9 lg9 ai9 al9 R9 cap9 num9 f9 sR9 lR9 aR9 bR9 H locs → lv_has ls 8 [(4, .int i), (3, .ref oa), (2, .ref o), (1, .ref (c 100)), (0, .ref b)] → cap ≤ cap9 → (st 13).toInt ≤ (st9 13).toInt → (st9 13).toInt ≤ (st 13).toInt + 16 → (K9 : Int) ≤ (K0 : Int) + 3 + 3 * ((st9 13).toInt - (st 13).toInt) → (M9 : Int) ≤ (M0 : Int) + 18 + 29 * ((st9 13).toInt - (st 13).toInt) + 4 * ((cap9 : Int) - (cap : Int)) → W p l e room_1 s m #[Value.ref b] below meth cM H locs K9 M9 (lw_Z below #[Value.ref b] s) (F0 m 1103 ls [])) : W p l e room_1 s m #[Value.ref b] below meth cM H locs K0 M0 (lw_Z below #[Value.ref b] s) (F0 m 409 ls []) := by
  obtain ⟨hx, hb, hr, hml, hown, hts, hX, hbl, hlocks, hA, hA9, hbA, hY⟩ := C0
  obtain ⟨hI, hJ, hcE, hPZ, hDZ, hPY, hDY, hdj, hS⟩ := hS0
  obtain ⟨⟨rf1a, rf1b⟩, ⟨rf2a, rf2b⟩, ⟨rf3a, rf3b⟩, ⟨rf6a, rf6b⟩, ⟨rf7a, rf7b⟩, ⟨rf9a, rf9b⟩, ⟨rf12a, rf12b⟩, ⟨rf15a, rf15b⟩, ⟨rf16a, rf16b⟩, ⟨rf17a, rf17b⟩, ⟨rf21a, rf21b⟩, ⟨rf22a, rf22b⟩, ⟨rf24a, rf24b⟩, ⟨rf26a, rf26b⟩, ⟨rf30a, rf30b⟩, ⟨rf32a, rf32b⟩, ⟨rf37a, rf37b⟩, rR8, rR25, rR31, rR35⟩ := hJ
  have hG := hY.1
  have hGW := hG.1
  have z_1 : (1 : Int32).toInt = 1 := by decide
  refine lv_aload_n hx hb dL_law_409 rfl (lv_at hl 3 rfl) ?_
  refine lv_aload_n hx hb dL_law_410 rfl (lv_at hl 4 rfl) ?_
  refine lv_iload hx hb dL_law_411 (lv_at hl 0 rfl) ?_
  refine lv_iconst (v := 1) hx hb dL_law_413 (by decide) ?_
  refine lv_iadd hx hb dL_law_414 ?_
  refine lv_topi (fun v_1 ev_1 => ?_)
  have rg1 := iv_rng i
  have hv_1 : v_1.toInt = i.toInt + 1 := by rw [ev_1]; exact (iv_add (by omega) (by omega)).trans (by omega)
  clear ev_1
  refine va_sld hx hb hX hbl hbA hS (iv_in (i := v_1) (by omega) (by omega)) dL_law_415 ?_
  refine lv_topi (fun v_2 ev_2 => ?_)
  clear ev_2
  refine lv_aload_n hx hb dL_law_416 rfl (lv_at hl 1 rfl) ?_
  refine W_read (fun hu1 hu2 => ?_)
  have hFc := vfree hDZ hS hA
  refine va_calli (vx_runSW (As := [.ref (c 100), .int v_2, .ref oa]) (rest := []) ⟨hx, hb, hml, hown, hts⟩ (h_L_digest l hl0 dC dI c kc st lg ai al R cap num oa ko fo v_2 _ _ hI) (vx_cwSW 3 hts gL_law_L_digest rfl rfl rfl (by decide +kernel) ⟨Nat.le_of_ble_eq_true rfl, Nat.le_of_ble_eq_true rfl⟩) ⟨fun a U g mk q => by obtain ⟨q0, q1, q2, qP, qK, qO, qD, qG⟩ := q; exact ⟨q0, q1, q2, qP, va_K.moved (u := U) (U := U.calling g mk a) (Vm.Alike.refl U.vm) qK, va_K.moved (u := U) (U := U.calling g mk a) (Vm.Alike.refl U.vm) qO, qD, qG.same rfl rfl⟩, fun U hU hW => ⟨rfl, by rw [hU], by rw [hU], by rw [hU]; exact hPZ, va_K.moved hW.alike hK, va_K.moved hW.alike hKo, hDZ.weaken (fun _ _ _ _ => trivial), hY.go hW hU hS hFc (fun h => ⟨rfl, hcE h⟩)⟩⟩ rfl rfl hl.1 rfl (lv_room (Nat.le_of_ble_eq_true rfl)) dL_law_417 ⟨by show K0 + 2 ≤ 601024; omega, by show M0 + 12 ≤ 7293000; omega⟩) hS (fun q _ h => hFc q h) hFc (fun r u t H1 locs ht hvm er hB hz1 hk1 hS => ?_)
  subst er
  obtain ⟨e9, st9, lg9, ai9, al9, R9, cap9, num9, f9, hI9, hc9, hcp9, hn1, hn2, hs1, hs2, hP9, hD9⟩ := hB
  have hN9 : (cap9 : Int) ≤ 10 + 2 * (st9 13).toInt := by have hI := hI9; obtain ⟨⟨hf3a, hf3b⟩, ⟨hf5a, hf5b⟩, ⟨hf6a, hf6b⟩, ⟨hf9a, hf9b⟩, ⟨hf13a, hf13b⟩, ⟨hf15a, hf15b⟩, ⟨hf17a, hf17b⟩, ⟨hf25a, hf25b⟩, ⟨hf26a, hf26b⟩, ⟨hf27a, hf27b⟩, ⟨hf28a, hf28b⟩, ⟨hf37a, hf37b⟩, hR4, hR7, hR23, hR32, hR33, hPI, hN⟩ := hI; exact hN.1
  have hb9 : (st9 13).toInt ≤ 65536 := by have hI := hI9; obtain ⟨⟨hf3a, hf3b⟩, ⟨hf5a, hf5b⟩, ⟨hf6a, hf6b⟩, ⟨hf9a, hf9b⟩, ⟨hf13a, hf13b⟩, ⟨hf15a, hf15b⟩, ⟨hf17a, hf17b⟩, ⟨hf25a, hf25b⟩, ⟨hf26a, hf26b⟩, ⟨hf27a, hf27b⟩, ⟨hf28a, hf28b⟩, ⟨hf37a, hf37b⟩, hR4, hR7, hR23, hR32, hR33, hPI, hN⟩ := hI; exact hf13b
  rw [ht] at hP9 hs1 hs2
  have hdj9 := dj_new hPY hdj hD9
  have hPY := dj_keep hPY hdj hk1
  have hdj := hdj9
  have hDZ := hD9.weaken (fun _ _ _ h => hFc _ h)
  have hPZ := hP9
  have hcE : cap9 = 0 → (rU c 99 e9) 99 = e0 := fun h => (show e9 = e0 from (hc9 h).2.trans (hcE (hc9 h).1))
  obtain ⟨K1, hK1⟩ : ∃ k9 : Nat, (k9 : Int) = (K0 : Int) + 3 + 3 * ((st9 13).toInt - (st 13).toInt) := ⟨((K0 : Int) + 3 + 3 * ((st9 13).toInt - (st 13).toInt)).toNat, by omega⟩
  obtain ⟨M1, hM1⟩ : ∃ m9 : Nat, (m9 : Int) = (M0 : Int) + 18 + 29 * ((st9 13).toInt - (st 13).toInt) + 4 * ((cap9 : Int) - (cap : Int)) := ⟨((M0 : Int) + 18 + 29 * ((st9 13).toInt - (st 13).toInt) + 4 * ((cap9 : Int) - (cap : Int))).toNat, by omega⟩
  refine W_tight (k' := K1) (m' := M1) (by omega) (by omega) ?_
  clear hz1 hk1 hvm hs1 hs2 hu1 hu2 hP9 hD9 hdj9 hFc
  subst ht
  generalize t.heap = H at hPZ hPY hS ⊢
  refine lv_topi (fun r er9 => ?_)
  clear er9
  refine lv_istore (lv' := [(5, .int r), (4, .int i), (3, .ref oa), (2, .ref o), (1, .ref (c 100)), (0, .ref b)]) hx hb dL_law_420 hl (by decide) rfl (fun ls hl => ?_)
  refine lv_aload_n hx hb dL_law_422 rfl (lv_at hl 3 rfl) ?_
  refine lv_aload_n hx hb dL_law_423 rfl (lv_at hl 5 rfl) ?_
  refine lv_iload hx hb dL_law_424 (lv_at hl 1 rfl) ?_
  refine lv_iconst (v := 1) hx hb dL_law_426 (by decide) ?_
  refine lv_iadd hx hb dL_law_427 ?_
  refine lv_topi (fun v_3 ev_3 => ?_)
  have hv_3 : v_3.toInt = i.toInt + 1 := by rw [ev_3]; exact (iv_add (by omega) (by omega)).trans (by omega)
  clear ev_3
  refine va_sld hx hb hX hbl hbA hS (iv_in (i := v_3) (by omega) (by omega)) dL_law_428 ?_
  refine lv_topi (fun v_4 ev_4 => ?_)
  clear ev_4
  have hFc := vfree (rw_D hDY : va_D A (rw_W o cR kR stR lgR aiR alR)) hS hA
  refine va_calll (va_runV (As := [.int v_4]) (rest := []) ⟨hx, hb, hml, hown, hts⟩ (v_X9_digest l dC dI o cR kR stR lgR aiR alR v_4 _ (show 0 ≤ (stR 3).toInt from rf3a) (show (stR 3).toInt ≤ 1 from rf3b) (show 0 ≤ (stR 7).toInt from rf7a) (show (stR 7).toInt ≤ 1 from rf7b) (show 0 ≤ (stR 15).toInt from rf15a) (show (stR 15).toInt ≤ 128 from rf15b) (show 0 ≤ (stR 16).toInt from rf16a) (show (stR 16).toInt ≤ 128 from rf16b) (show 0 ≤ (stR 17).toInt from rf17a) (show (stR 17).toInt ≤ 1 from rf17b) (show -1 ≤ (stR 21).toInt from rf21a) (show (stR 21).toInt ≤ 127 from rf21b) (show 0 ≤ (stR 22).toInt from rf22a) (show (stR 22).toInt ≤ 1000000 from rf22b) (show 0 ≤ (stR 24).toInt from rf24a) (show (stR 24).toInt ≤ 1 from rf24b) (show 0 ≤ (stR 26).toInt from rf26a) (show (stR 26).toInt ≤ 2000000 from rf26b) (show aR (aiR 25) 130 (0) 127 from rR25)) (cwV 1 hts gL_law_X9_digest rfl rfl rfl (by decide +kernel) ⟨Nat.le_of_ble_eq_true rfl, Nat.le_of_ble_eq_true rfl⟩) ⟨fun a U g mk q => by obtain ⟨q0, q1, qP, qK, qD⟩ := q; exact ⟨q0, q1, qP, va_K.moved (u := U) (U := U.calling g mk a) (Vm.Alike.refl U.vm) qK, qD⟩, va_recv hKR hPY (ci := 11) (q := (RX9, TX9, 38)) rfl (q0 := 0) rfl, fun U hU hW => ⟨rfl, by rw [hU], by rw [hU]; exact hPY, va_K.moved hW.alike hKR, (rw_D hDY).weaken (fun _ _ _ _ => trivial)⟩⟩ rfl rfl hl.1 rfl (lv_room (Nat.le_of_ble_eq_true rfl)) dL_law_429 ⟨by show K1 + 0 ≤ 601024; omega, by show M1 + 0 ≤ 7293000; omega⟩) hS (fun q _ h => hFc q h) hFc (fun r_5 u t H1 locs ht hvm er_5 hB hz1 hk1 hS => ?_)
  subst er_5
  obtain ⟨x13_5, x16_5, x17_5, x21_5, x22_5, x24_5, x26_5, y23_5, y27_5, f19_5, f20_5, f25_5, g18_5, y90_5, y91_5, y92_5, y93_5, y94_5, y95_5, y96_5, y97_5, y98_5, y99_5, y910_5, y911_5, rR25, hP1⟩ := hB
  rw [ht] at hP1
  have hPZ := dj_keep hPZ (dj_sym (rw_dj (lg' := lgR) (st' := stR) (ai' := aiR) (al' := alR) hdj)) hk1
  clear hPY hz1 hk1 hvm hFc
  subst ht
  have hPY := hP1
  clear hP1
  generalize t.heap = H at hPY hPZ hS ⊢
  have hPY : va_P (dC, dI) vwCl (rw_W o cR kR (rU (rU (rU (rU (rU (rU (rU stR 13 x13_5) 16 x16_5) 17 x17_5) 21 x21_5) 22 x22_5) 24 x24_5) 26 x26_5) (rU (rU lgR 23 y23_5) 27 y27_5) (rU (rU (rU aiR 19 f19_5) 20 f20_5) 25 f25_5) (rU alR 18 g18_5)) H := hPY
  have rf16a : 0 ≤ x16_5.toInt := y90_5
  have rf16b : x16_5.toInt ≤ 128 := y91_5
  have rf17a : 0 ≤ x17_5.toInt := y92_5
  have rf17b : x17_5.toInt ≤ 1 := y93_5
  have rf21a : -1 ≤ x21_5.toInt := y94_5
  have rf21b : x21_5.toInt ≤ 127 := y95_5
  have rf22a : 0 ≤ x22_5.toInt := y96_5
  have rf22b : x22_5.toInt ≤ 1000000 := y97_5
  have rf24a : 0 ≤ x24_5.toInt := y98_5
  have rf24b : x24_5.toInt ≤ 1 := y99_5
  have rf26a : 0 ≤ x26_5.toInt := y910_5
  have rf26b : x26_5.toInt ≤ 2000000 := y911_5
  have rR25 : aR f25_5 130 (0) 127 := rR25
  refine lv_lstore (lv' := [(6, .long r_5), (5, .int r), (4, .int i), (3, .ref oa), (2, .ref o), (1, .ref (c 100)), (0, .ref b)]) hx hb dL_law_432 hl (by decide) rfl (fun ls hl => ?_)
  refine lv_goto (tgt := 1103) hx hb dL_law_434 (by decide) ?_
  exact kk e9 st9 lg9 ai9 al9 R9 cap9 num9 f9 (rU (rU (rU (rU (rU (rU (rU stR 13 x13_5) 16 x16_5) 17 x17_5) 21 x21_5) 22 x22_5) 24 x24_5) 26 x26_5) (rU (rU lgR 23 y23_5) 27 y27_5) (rU (rU (rU aiR 19 f19_5) 20 f20_5) 25 f25_5) (rU alR 18 g18_5) _ locs ls K1 M1 ⟨hI9, ⟨⟨rf1a, rf1b⟩, ⟨rf2a, rf2b⟩, ⟨rf3a, rf3b⟩, ⟨rf6a, rf6b⟩, ⟨rf7a, rf7b⟩, ⟨rf9a, rf9b⟩, ⟨rf12a, rf12b⟩, ⟨rf15a, rf15b⟩, ⟨rf16a, rf16b⟩, ⟨rf17a, rf17b⟩, ⟨rf21a, rf21b⟩, ⟨rf22a, rf22b⟩, ⟨rf24a, rf24b⟩, ⟨rf26a, rf26b⟩, ⟨rf30a, rf30b⟩, ⟨rf32a, rf32b⟩, ⟨rf37a, rf37b⟩, rR8, rR25, rR31, rR35⟩, hcE, hPZ, hDZ, hPY, rw_D hDY, rw_dj hdj, hS⟩ (lv_sub hl [2, 3, 4, 5, 6] rfl) hcp9 (show (st 13).toInt ≤ (st9 13).toInt by omega) (show (st9 13).toInt ≤ (st 13).toInt + 16 by omega) (by omega) (by omega)

set_option maxHeartbeats 4000000 in
set_option maxRecDepth 100000 in
theorem lwq_7 {p : Program} {e : Env} {s : State} {m : MethodId} {below : List Frame} {meth : Method} {cM : Code} (l : Launch) (hl0 : l.stackTraces = false) {A : Nat → Prop} {dC : Nat → ClassId} {dI : Nat → Nat → Nat} {b L e0 : Nat} {xs : Nat → Int32} (kc kR : Nat → ClassId) (ko : ClassId) (oa o : Nat) (cR : Nat → Nat) (c : Nat → Nat) (st : Nat → Int32) (lg : Nat → Int64) (ai : Nat → Nat → Int32) (al : Nat → Nat → Int64) (R : va_W) (cap : Nat) (num : Nat → Int32) (fo : Nat → Int64) (stR : Nat → Int32) (lgR : Nat → Int64) (aiR : Nat → Nat → Int32) (alR : Nat → Nat → Int64) (H : Heap) (locs : List Loc) (ls : Array Slot) (i : Int32) (K0 M0 : Nat) (C0 : lwB p s m meth cM b L xs A e0) (hK : va_K (dC, dI) vwCl (cw_T kc) s) (hKo : va_K (dC, dI) vwCl [(ko, .long)] s) (hKR : va_K (dC, dI) vwCl (rw_T kR) s) (hS0 : lwS (dC, dI) A s e0 kc kR ko oa o cR c st lg ai al R cap num fo stR lgR aiR alR H locs) (hl : lv_has ls 8 [(4, .int i), (3, .ref oa), (2, .ref o), (1, .ref (c 100)), (0, .ref b)]) (hi : 1 ≤ i.toInt) (hi2 : i.toInt + 4 < (L : Int)) (hL : L ≤ 2561) (hK0 : K0 + 100 ≤ 601024) (hM0 : M0 + 1200000 ≤ 7293000) (kk : ∀ (e9 : Nat) (st9 : Nat → Int32) (lg9 : Nat → Int64) (ai9 : Nat → Nat → Int32) (al9 : Nat → Nat → Int64) (R9 : va_W) (cap9 : Nat) (num9 : Nat → Int32) (f9 : Nat → Int64) (sR9 : Nat → Int32) (lR9 : Nat → Int64) (aR9 : Nat → Nat → Int32) (bR9 : Nat → Nat → Int64) (H : Heap) (locs : List Loc) (ls : Array Slot) (K9 M9 : Nat), lwS (dC, dI) A s e0 kc kR ko oa o cR (rU c 99 e9) st9 lg9 ai9 al9 R9 cap9 num9 f9 sR9 lR9 aR9 bR9 H locs → lv_has ls 8 [(4, .int i), (3, .ref oa), (2, .ref o), (1, .ref (c 100)), (0, .ref b)] → cap ≤ cap9 → (st 13).toInt ≤ (st9 13).toInt → (st9 13).toInt ≤ (st 13).toInt + 16 → (K9 : Int) ≤ (K0 : Int) + 3 + 3 * ((st9 13).toInt - (st 13).toInt) → (M9 : Int) ≤ (M0 : Int) + 18 + 29 * ((st9 13).toInt - (st 13).toInt) + 4 * ((cap9 : Int) - (cap : Int)) → W p l e room_1 s m #[Value.ref b] below meth cM H locs K9 M9 (lw_Z below #[Value.ref b] s) (F0 m 1103 ls [])) : W p l e room_1 s m #[Value.ref b] below meth cM H locs K0 M0 (lw_Z below #[Value.ref b] s) (F0 m 437 ls []) := by
  obtain ⟨hx, hb, hr, hml, hown, hts, hX, hbl, hlocks, hA, hA9, hbA, hY⟩ := C0
  obtain ⟨hI, hJ, hcE, hPZ, hDZ, hPY, hDY, hdj, hS⟩ := hS0
  obtain ⟨⟨rf1a, rf1b⟩, ⟨rf2a, rf2b⟩, ⟨rf3a, rf3b⟩, ⟨rf6a, rf6b⟩, ⟨rf7a, rf7b⟩, ⟨rf9a, rf9b⟩, ⟨rf12a, rf12b⟩, ⟨rf15a, rf15b⟩, ⟨rf16a, rf16b⟩, ⟨rf17a, rf17b⟩, ⟨rf21a, rf21b⟩, ⟨rf22a, rf22b⟩, ⟨rf24a, rf24b⟩, ⟨rf26a, rf26b⟩, ⟨rf30a, rf30b⟩, ⟨rf32a, rf32b⟩, ⟨rf37a, rf37b⟩, rR8, rR25, rR31, rR35⟩ := hJ
  have hG := hY.1
  have hGW := hG.1
  have z_1 : (1 : Int32).toInt = 1 := by decide
  have z_2 : (2 : Int32).toInt = 2 := by decide
  have z_3 : (3 : Int32).toInt = 3 := by decide
  have z_4 : (4 : Int32).toInt = 4 := by decide
  have z_32 : (32 : Int32).toInt = 32 := by decide
  refine lv_aload_n hx hb dL_law_437 rfl (lv_at hl 3 rfl) ?_
  refine lv_aload_n hx hb dL_law_438 rfl (lv_at hl 4 rfl) ?_
  refine lv_iload hx hb dL_law_439 (lv_at hl 0 rfl) ?_
  refine lv_iconst (v := 1) hx hb dL_law_441 (by decide) ?_
  refine lv_iadd hx hb dL_law_442 ?_
  refine lv_topi (fun v_1 ev_1 => ?_)
  have rg1 := iv_rng i
  have hv_1 : v_1.toInt = i.toInt + 1 := by rw [ev_1]; exact (iv_add (by omega) (by omega)).trans (by omega)
  clear ev_1
  refine va_sld hx hb hX hbl hbA hS (iv_in (i := v_1) (by omega) (by omega)) dL_law_443 ?_
  refine lv_topi (fun v_2 ev_2 => ?_)
  clear ev_2
  refine lv_aload_n hx hb dL_law_444 rfl (lv_at hl 4 rfl) ?_
  refine lv_iload hx hb dL_law_445 (lv_at hl 0 rfl) ?_
  refine lv_iconst (v := 2) hx hb dL_law_447 (by decide) ?_
  refine lv_iadd hx hb dL_law_448 ?_
  refine lv_topi (fun v_3 ev_3 => ?_)
  have hv_3 : v_3.toInt = i.toInt + 2 := by rw [ev_3]; exact (iv_add (by omega) (by omega)).trans (by omega)
  clear ev_3
  refine va_sld hx hb hX hbl hbA hS (iv_in (i := v_3) (by omega) (by omega)) dL_law_449 ?_
  refine lv_topi (fun v_4 ev_4 => ?_)
  clear ev_4
  refine lv_aload_n hx hb dL_law_450 rfl (lv_at hl 4 rfl) ?_
  refine lv_iload hx hb dL_law_451 (lv_at hl 0 rfl) ?_
  refine lv_iconst (v := 3) hx hb dL_law_453 (by decide) ?_
  refine lv_iadd hx hb dL_law_454 ?_
  refine lv_topi (fun v_5 ev_5 => ?_)
  have hv_5 : v_5.toInt = i.toInt + 3 := by rw [ev_5]; exact (iv_add (by omega) (by omega)).trans (by omega)
  clear ev_5
  refine va_sld hx hb hX hbl hbA hS (iv_in (i := v_5) (by omega) (by omega)) dL_law_455 ?_
  refine lv_topi (fun v_6 ev_6 => ?_)
  clear ev_6
  refine lv_i2l hx hb dL_law_456 rfl ?_
  refine lv_topl (fun w_7 ew_7 => ?_)
  clear ew_7
  refine lv_bipush (v := 32) hx hb dL_law_457 (by decide) ?_
  refine lv_lshl hx hb dL_law_459 rfl ?_
  refine lv_topl (fun w_8 ew_8 => ?_)
  clear ew_8
  refine lv_aload_n hx hb dL_law_460 rfl (lv_at hl 4 rfl) ?_
  refine lv_iload hx hb dL_law_461 (lv_at hl 0 rfl) ?_
  refine lv_iconst (v := 4) hx hb dL_law_463 (by decide) ?_
  refine lv_iadd hx hb dL_law_464 ?_
  refine lv_topi (fun v_9 ev_9 => ?_)
  have hv_9 : v_9.toInt = i.toInt + 4 := by rw [ev_9]; exact (iv_add (by omega) (by omega)).trans (by omega)
  clear ev_9
  refine va_sld hx hb hX hbl hbA hS (iv_in (i := v_9) (by omega) (by omega)) dL_law_465 ?_
  refine lv_topi (fun v_10 ev_10 => ?_)
  clear ev_10
  refine lv_i2l hx hb dL_law_466 rfl ?_
  refine lv_topl (fun w_11 ew_11 => ?_)
  clear ew_11
  refine lv_ldc2 hx hb hown (hts (.constantLong RL 106 (4294967295)) (by decide +kernel)) dL_law_467 ?_
  refine lv_land hx hb dL_law_470 ?_
  refine lv_topl (fun w_12 ew_12 => ?_)
  clear ew_12
  refine lv_lor hx hb dL_law_471 ?_
  refine lv_topl (fun w_13 ew_13 => ?_)
  clear ew_13
  refine lv_aload_n hx hb dL_law_472 rfl (lv_at hl 1 rfl) ?_
  refine W_read (fun hu1 hu2 => ?_)
  have hFc := vfree hDZ hS hA
  refine va_calli (vx_runSW (As := [.ref (c 100), .int v_2, .int v_4, .long w_13, .ref oa]) (rest := []) ⟨hx, hb, hml, hown, hts⟩ (h_L_vote l hl0 dC dI c kc st lg ai al R cap num oa ko fo v_2 v_4 w_13 _ _ hI) (vx_cwSW 5 hts gL_law_L_vote rfl rfl rfl (by decide +kernel) ⟨Nat.le_of_ble_eq_true rfl, Nat.le_of_ble_eq_true rfl⟩) ⟨fun a U g mk q => by obtain ⟨q0, q1, q2, qP, qK, qO, qD, qG⟩ := q; exact ⟨q0, q1, q2, qP, va_K.moved (u := U) (U := U.calling g mk a) (Vm.Alike.refl U.vm) qK, va_K.moved (u := U) (U := U.calling g mk a) (Vm.Alike.refl U.vm) qO, qD, qG.same rfl rfl⟩, fun U hU hW => ⟨rfl, by rw [hU], by rw [hU], by rw [hU]; exact hPZ, va_K.moved hW.alike hK, va_K.moved hW.alike hKo, hDZ.weaken (fun _ _ _ _ => trivial), hY.go hW hU hS hFc (fun h => ⟨rfl, hcE h⟩)⟩⟩ rfl rfl hl.1 rfl (lv_room (Nat.le_of_ble_eq_true rfl)) dL_law_473 ⟨by show K0 + 3 ≤ 601024; omega, by show M0 + 18 ≤ 7293000; omega⟩) hS (fun q _ h => hFc q h) hFc (fun r u t H1 locs ht hvm er hB hz1 hk1 hS => ?_)
  subst er
  obtain ⟨e9, st9, lg9, ai9, al9, R9, cap9, num9, f9, hI9, hc9, hcp9, hn1, hn2, hs1, hs2, hP9, hD9⟩ := hB
  have hN9 : (cap9 : Int) ≤ 10 + 2 * (st9 13).toInt := by have hI := hI9; obtain ⟨⟨hf3a, hf3b⟩, ⟨hf5a, hf5b⟩, ⟨hf6a, hf6b⟩, ⟨hf9a, hf9b⟩, ⟨hf13a, hf13b⟩, ⟨hf15a, hf15b⟩, ⟨hf17a, hf17b⟩, ⟨hf25a, hf25b⟩, ⟨hf26a, hf26b⟩, ⟨hf27a, hf27b⟩, ⟨hf28a, hf28b⟩, ⟨hf37a, hf37b⟩, hR4, hR7, hR23, hR32, hR33, hPI, hN⟩ := hI; exact hN.1
  have hb9 : (st9 13).toInt ≤ 65536 := by have hI := hI9; obtain ⟨⟨hf3a, hf3b⟩, ⟨hf5a, hf5b⟩, ⟨hf6a, hf6b⟩, ⟨hf9a, hf9b⟩, ⟨hf13a, hf13b⟩, ⟨hf15a, hf15b⟩, ⟨hf17a, hf17b⟩, ⟨hf25a, hf25b⟩, ⟨hf26a, hf26b⟩, ⟨hf27a, hf27b⟩, ⟨hf28a, hf28b⟩, ⟨hf37a, hf37b⟩, hR4, hR7, hR23, hR32, hR33, hPI, hN⟩ := hI; exact hf13b
  rw [ht] at hP9 hs1 hs2
  have hdj9 := dj_new hPY hdj hD9
  have hPY := dj_keep hPY hdj hk1
  have hdj := hdj9
  have hDZ := hD9.weaken (fun _ _ _ h => hFc _ h)
  have hPZ := hP9
  have hcE : cap9 = 0 → (rU c 99 e9) 99 = e0 := fun h => (show e9 = e0 from (hc9 h).2.trans (hcE (hc9 h).1))
  obtain ⟨K1, hK1⟩ : ∃ k9 : Nat, (k9 : Int) = (K0 : Int) + 3 + 3 * ((st9 13).toInt - (st 13).toInt) := ⟨((K0 : Int) + 3 + 3 * ((st9 13).toInt - (st 13).toInt)).toNat, by omega⟩
  obtain ⟨M1, hM1⟩ : ∃ m9 : Nat, (m9 : Int) = (M0 : Int) + 18 + 29 * ((st9 13).toInt - (st 13).toInt) + 4 * ((cap9 : Int) - (cap : Int)) := ⟨((M0 : Int) + 18 + 29 * ((st9 13).toInt - (st 13).toInt) + 4 * ((cap9 : Int) - (cap : Int))).toNat, by omega⟩
  refine W_tight (k' := K1) (m' := M1) (by omega) (by omega) ?_
  clear hz1 hk1 hvm hs1 hs2 hu1 hu2 hP9 hD9 hdj9 hFc
  subst ht
  generalize t.heap = H at hPZ hPY hS ⊢
  refine lv_topi (fun r er9 => ?_)
  clear er9
  refine lv_istore (lv' := [(5, .int r), (4, .int i), (3, .ref oa), (2, .ref o), (1, .ref (c 100)), (0, .ref b)]) hx hb dL_law_476 hl (by decide) rfl (fun ls hl => ?_)
  refine lv_aload_n hx hb dL_law_478 rfl (lv_at hl 3 rfl) ?_
  refine lv_aload_n hx hb dL_law_479 rfl (lv_at hl 5 rfl) ?_
  refine lv_iload hx hb dL_law_480 (lv_at hl 1 rfl) ?_
  refine lv_iconst (v := 1) hx hb dL_law_482 (by decide) ?_
  refine lv_iadd hx hb dL_law_483 ?_
  refine lv_topi (fun v_14 ev_14 => ?_)
  have hv_14 : v_14.toInt = i.toInt + 1 := by rw [ev_14]; exact (iv_add (by omega) (by omega)).trans (by omega)
  clear ev_14
  refine va_sld hx hb hX hbl hbA hS (iv_in (i := v_14) (by omega) (by omega)) dL_law_484 ?_
  refine lv_topi (fun v_15 ev_15 => ?_)
  clear ev_15
  refine lv_aload_n hx hb dL_law_485 rfl (lv_at hl 5 rfl) ?_
  refine lv_iload hx hb dL_law_486 (lv_at hl 1 rfl) ?_
  refine lv_iconst (v := 2) hx hb dL_law_488 (by decide) ?_
  refine lv_iadd hx hb dL_law_489 ?_
  refine lv_topi (fun v_16 ev_16 => ?_)
  have hv_16 : v_16.toInt = i.toInt + 2 := by rw [ev_16]; exact (iv_add (by omega) (by omega)).trans (by omega)
  clear ev_16
  refine va_sld hx hb hX hbl hbA hS (iv_in (i := v_16) (by omega) (by omega)) dL_law_490 ?_
  refine lv_topi (fun v_17 ev_17 => ?_)
  clear ev_17
  refine lv_aload_n hx hb dL_law_491 rfl (lv_at hl 5 rfl) ?_
  refine lv_iload hx hb dL_law_492 (lv_at hl 1 rfl) ?_
  refine lv_iconst (v := 3) hx hb dL_law_494 (by decide) ?_
  refine lv_iadd hx hb dL_law_495 ?_
  refine lv_topi (fun v_18 ev_18 => ?_)
  have hv_18 : v_18.toInt = i.toInt + 3 := by rw [ev_18]; exact (iv_add (by omega) (by omega)).trans (by omega)
  clear ev_18
  refine va_sld hx hb hX hbl hbA hS (iv_in (i := v_18) (by omega) (by omega)) dL_law_496 ?_
  refine lv_topi (fun v_19 ev_19 => ?_)
  clear ev_19
  refine lv_i2l hx hb dL_law_497 rfl ?_
  refine lv_topl (fun w_20 ew_20 => ?_)
  clear ew_20
  refine lv_bipush (v := 32) hx hb dL_law_498 (by decide) ?_
  refine lv_lshl hx hb dL_law_500 rfl ?_
  refine lv_topl (fun w_21 ew_21 => ?_)
  clear ew_21
  refine lv_aload_n hx hb dL_law_501 rfl (lv_at hl 5 rfl) ?_
  refine lv_iload hx hb dL_law_502 (lv_at hl 1 rfl) ?_
  refine lv_iconst (v := 4) hx hb dL_law_504 (by decide) ?_
  refine lv_iadd hx hb dL_law_505 ?_
  refine lv_topi (fun v_22 ev_22 => ?_)
  have hv_22 : v_22.toInt = i.toInt + 4 := by rw [ev_22]; exact (iv_add (by omega) (by omega)).trans (by omega)
  clear ev_22
  refine va_sld hx hb hX hbl hbA hS (iv_in (i := v_22) (by omega) (by omega)) dL_law_506 ?_
  refine lv_topi (fun v_23 ev_23 => ?_)
  clear ev_23
  refine lv_i2l hx hb dL_law_507 rfl ?_
  refine lv_topl (fun w_24 ew_24 => ?_)
  clear ew_24
  refine lv_ldc2 hx hb hown (hts (.constantLong RL 106 (4294967295)) (by decide +kernel)) dL_law_508 ?_
  refine lv_land hx hb dL_law_511 ?_
  refine lv_topl (fun w_25 ew_25 => ?_)
  clear ew_25
  refine lv_lor hx hb dL_law_512 ?_
  refine lv_topl (fun w_26 ew_26 => ?_)
  clear ew_26
  have hFc := vfree (rw_D hDY : va_D A (rw_W o cR kR stR lgR aiR alR)) hS hA
  refine va_calli (va_runV (As := [.int v_15, .int v_17, .long w_26]) (rest := []) ⟨hx, hb, hml, hown, hts⟩ (v_X9_vote l dC dI o cR kR stR lgR aiR alR v_15 v_17 w_26 _ (show 0 ≤ (stR 3).toInt from rf3a) (show (stR 3).toInt ≤ 1 from rf3b) (show 0 ≤ (stR 6).toInt from rf6a) (show (stR 6).toInt ≤ 1 from rf6b) (show 0 ≤ (stR 7).toInt from rf7a) (show (stR 7).toInt ≤ 1 from rf7b) (show 0 ≤ (stR 12).toInt from rf12a) (show (stR 12).toInt ≤ 8 from rf12b) (show 0 ≤ (stR 15).toInt from rf15a) (show (stR 15).toInt ≤ 128 from rf15b) (show 0 ≤ (stR 16).toInt from rf16a) (show (stR 16).toInt ≤ 128 from rf16b) (show 0 ≤ (stR 17).toInt from rf17a) (show (stR 17).toInt ≤ 1 from rf17b) (show -1 ≤ (stR 21).toInt from rf21a) (show (stR 21).toInt ≤ 127 from rf21b) (show 0 ≤ (stR 22).toInt from rf22a) (show (stR 22).toInt ≤ 1000000 from rf22b) (show 0 ≤ (stR 24).toInt from rf24a) (show (stR 24).toInt ≤ 1 from rf24b) (show 0 ≤ (stR 26).toInt from rf26a) (show (stR 26).toInt ≤ 2000000 from rf26b) (show aR (aiR 25) 130 (0) 127 from rR25)) (cwV 3 hts gL_law_X9_vote rfl rfl rfl (by decide +kernel) ⟨Nat.le_of_ble_eq_true rfl, Nat.le_of_ble_eq_true rfl⟩) ⟨fun a U g mk q => by obtain ⟨q0, q1, qP, qK, qD⟩ := q; exact ⟨q0, q1, qP, va_K.moved (u := U) (U := U.calling g mk a) (Vm.Alike.refl U.vm) qK, qD⟩, va_recv hKR hPY (ci := 11) (q := (RX9, TX9, 38)) rfl (q0 := 0) rfl, fun U hU hW => ⟨rfl, by rw [hU], by rw [hU]; exact hPY, va_K.moved hW.alike hKR, (rw_D hDY).weaken (fun _ _ _ _ => trivial)⟩⟩ rfl rfl hl.1 rfl (lv_room (Nat.le_of_ble_eq_true rfl)) dL_law_513 ⟨by show K1 + 0 ≤ 601024; omega, by show M1 + 0 ≤ 7293000; omega⟩) hS (fun q _ h => hFc q h) hFc (fun r_27 u t H1 locs ht hvm er_27 hB hz1 hk1 hS => ?_)
  subst er_27
  obtain ⟨x3_27, x4_27, x5_27, x6_27, x12_27, x13_27, x15_27, x16_27, x17_27, x21_27, x22_27, x24_27, x26_27, y23_27, y27_27, f0_27, f14_27, f19_27, f20_27, f25_27, g18_27, y90_27, y91_27, y92_27, y93_27, y94_27, y95_27, y96_27, y97_27, y98_27, y99_27, y910_27, y911_27, y912_27, y913_27, y914_27, y915_27, y916_27, y917_27, y918_27, y919_27, rR25, hP1⟩ := hB
  rw [ht] at hP1
  have hPZ := dj_keep hPZ (dj_sym (rw_dj (lg' := lgR) (st' := stR) (ai' := aiR) (al' := alR) hdj)) hk1
  clear hPY hz1 hk1 hvm hFc
  subst ht
  have hPY := hP1
  clear hP1
  generalize t.heap = H at hPY hPZ hS ⊢
  have hPY : va_P (dC, dI) vwCl (rw_W o cR kR (rU (rU (rU (rU (rU (rU (rU (rU (rU (rU (rU (rU (rU stR 3 x3_27) 4 x4_27) 5 x5_27) 6 x6_27) 12 x12_27) 13 x13_27) 15 x15_27) 16 x16_27) 17 x17_27) 21 x21_27) 22 x22_27) 24 x24_27) 26 x26_27) (rU (rU lgR 23 y23_27) 27 y27_27) (rU (rU (rU (rU (rU aiR 0 f0_27) 14 f14_27) 19 f19_27) 20 f20_27) 25 f25_27) (rU alR 18 g18_27)) H := hPY
  have rf3a : 0 ≤ x3_27.toInt := y90_27
  have rf3b : x3_27.toInt ≤ 1 := y91_27
  have rf6a : 0 ≤ x6_27.toInt := y92_27
  have rf6b : x6_27.toInt ≤ 1 := y93_27
  have rf12a : 0 ≤ x12_27.toInt := y94_27
  have rf12b : x12_27.toInt ≤ 8 := y95_27
  have rf15a : 0 ≤ x15_27.toInt := y96_27
  have rf15b : x15_27.toInt ≤ 128 := y97_27
  have rf16a : 0 ≤ x16_27.toInt := y98_27
  have rf16b : x16_27.toInt ≤ 128 := y99_27
  have rf17a : 0 ≤ x17_27.toInt := y910_27
  have rf17b : x17_27.toInt ≤ 1 := y911_27
  have rf21a : -1 ≤ x21_27.toInt := y912_27
  have rf21b : x21_27.toInt ≤ 127 := y913_27
  have rf22a : 0 ≤ x22_27.toInt := y914_27
  have rf22b : x22_27.toInt ≤ 1000000 := y915_27
  have rf24a : 0 ≤ x24_27.toInt := y916_27
  have rf24b : x24_27.toInt ≤ 1 := y917_27
  have rf26a : 0 ≤ x26_27.toInt := y918_27
  have rf26b : x26_27.toInt ≤ 2000000 := y919_27
  have rR25 : aR f25_27 130 (0) 127 := rR25
  refine lv_istore (lv' := [(6, .int r_27), (5, .int r), (4, .int i), (3, .ref oa), (2, .ref o), (1, .ref (c 100)), (0, .ref b)]) hx hb dL_law_516 hl (by decide) rfl (fun ls hl => ?_)
  refine lv_goto (tgt := 1103) hx hb dL_law_518 (by decide) ?_
  exact kk e9 st9 lg9 ai9 al9 R9 cap9 num9 f9 (rU (rU (rU (rU (rU (rU (rU (rU (rU (rU (rU (rU (rU stR 3 x3_27) 4 x4_27) 5 x5_27) 6 x6_27) 12 x12_27) 13 x13_27) 15 x15_27) 16 x16_27) 17 x17_27) 21 x21_27) 22 x22_27) 24 x24_27) 26 x26_27) (rU (rU lgR 23 y23_27) 27 y27_27) (rU (rU (rU (rU (rU aiR 0 f0_27) 14 f14_27) 19 f19_27) 20 f20_27) 25 f25_27) (rU alR 18 g18_27) _ locs ls K1 M1 ⟨hI9, ⟨⟨rf1a, rf1b⟩, ⟨rf2a, rf2b⟩, ⟨rf3a, rf3b⟩, ⟨rf6a, rf6b⟩, ⟨rf7a, rf7b⟩, ⟨rf9a, rf9b⟩, ⟨rf12a, rf12b⟩, ⟨rf15a, rf15b⟩, ⟨rf16a, rf16b⟩, ⟨rf17a, rf17b⟩, ⟨rf21a, rf21b⟩, ⟨rf22a, rf22b⟩, ⟨rf24a, rf24b⟩, ⟨rf26a, rf26b⟩, ⟨rf30a, rf30b⟩, ⟨rf32a, rf32b⟩, ⟨rf37a, rf37b⟩, rR8, rR25, rR31, rR35⟩, hcE, hPZ, hDZ, hPY, rw_D hDY, rw_dj hdj, hS⟩ (lv_sub hl [2, 3, 4, 5, 6] rfl) hcp9 (show (st 13).toInt ≤ (st9 13).toInt by omega) (show (st9 13).toInt ≤ (st 13).toInt + 16 by omega) (by omega) (by omega)

set_option maxHeartbeats 4000000 in
set_option maxRecDepth 100000 in
theorem lwq_8 {p : Program} {e : Env} {s : State} {m : MethodId} {below : List Frame} {meth : Method} {cM : Code} (l : Launch) (hl0 : l.stackTraces = false) {A : Nat → Prop} {dC : Nat → ClassId} {dI : Nat → Nat → Nat} {b L e0 : Nat} {xs : Nat → Int32} (kc kR : Nat → ClassId) (ko : ClassId) (oa o : Nat) (cR : Nat → Nat) (c : Nat → Nat) (st : Nat → Int32) (lg : Nat → Int64) (ai : Nat → Nat → Int32) (al : Nat → Nat → Int64) (R : va_W) (cap : Nat) (num : Nat → Int32) (fo : Nat → Int64) (stR : Nat → Int32) (lgR : Nat → Int64) (aiR : Nat → Nat → Int32) (alR : Nat → Nat → Int64) (H : Heap) (locs : List Loc) (ls : Array Slot) (i : Int32) (K0 M0 : Nat) (C0 : lwB p s m meth cM b L xs A e0) (hK : va_K (dC, dI) vwCl (cw_T kc) s) (hKo : va_K (dC, dI) vwCl [(ko, .long)] s) (hKR : va_K (dC, dI) vwCl (rw_T kR) s) (hS0 : lwS (dC, dI) A s e0 kc kR ko oa o cR c st lg ai al R cap num fo stR lgR aiR alR H locs) (hl : lv_has ls 8 [(4, .int i), (3, .ref oa), (2, .ref o), (1, .ref (c 100)), (0, .ref b)]) (hi : 1 ≤ i.toInt) (hi2 : i.toInt + 4 < (L : Int)) (hL : L ≤ 2561) (hK0 : K0 + 100 ≤ 601024) (hM0 : M0 + 1200000 ≤ 7293000) (kk : ∀ (e9 : Nat) (st9 : Nat → Int32) (lg9 : Nat → Int64) (ai9 : Nat → Nat → Int32) (al9 : Nat → Nat → Int64) (R9 : va_W) (cap9 : Nat) (num9 : Nat → Int32) (f9 : Nat → Int64) (sR9 : Nat → Int32) (lR9 : Nat → Int64) (aR9 : Nat → Nat → Int32) (bR9 : Nat → Nat → Int64) (H : Heap) (locs : List Loc) (ls : Array Slot) (K9 M9 : Nat), lwS (dC, dI) A s e0 kc kR ko oa o cR (rU c 99 e9) st9 lg9 ai9 al9 R9 cap9 num9 f9 sR9 lR9 aR9 bR9 H locs → lv_has ls 8 [(4, .int i), (3, .ref oa), (2, .ref o), (1, .ref (c 100)), (0, .ref b)] → cap ≤ cap9 → (st 13).toInt ≤ (st9 13).toInt → (st9 13).toInt ≤ (st 13).toInt + 16 → (K9 : Int) ≤ (K0 : Int) + 3 + 3 * ((st9 13).toInt - (st 13).toInt) → (M9 : Int) ≤ (M0 : Int) + 18 + 29 * ((st9 13).toInt - (st 13).toInt) + 4 * ((cap9 : Int) - (cap : Int)) → W p l e room_1 s m #[Value.ref b] below meth cM H locs K9 M9 (lw_Z below #[Value.ref b] s) (F0 m 1103 ls [])) : W p l e room_1 s m #[Value.ref b] below meth cM H locs K0 M0 (lw_Z below #[Value.ref b] s) (F0 m 521 ls []) := by
  obtain ⟨hx, hb, hr, hml, hown, hts, hX, hbl, hlocks, hA, hA9, hbA, hY⟩ := C0
  obtain ⟨hI, hJ, hcE, hPZ, hDZ, hPY, hDY, hdj, hS⟩ := hS0
  obtain ⟨⟨rf1a, rf1b⟩, ⟨rf2a, rf2b⟩, ⟨rf3a, rf3b⟩, ⟨rf6a, rf6b⟩, ⟨rf7a, rf7b⟩, ⟨rf9a, rf9b⟩, ⟨rf12a, rf12b⟩, ⟨rf15a, rf15b⟩, ⟨rf16a, rf16b⟩, ⟨rf17a, rf17b⟩, ⟨rf21a, rf21b⟩, ⟨rf22a, rf22b⟩, ⟨rf24a, rf24b⟩, ⟨rf26a, rf26b⟩, ⟨rf30a, rf30b⟩, ⟨rf32a, rf32b⟩, ⟨rf37a, rf37b⟩, rR8, rR25, rR31, rR35⟩ := hJ
  have hG := hY.1
  have hGW := hG.1
  have z_1 : (1 : Int32).toInt = 1 := by decide
  refine lv_aload_n hx hb dL_law_521 rfl (lv_at hl 3 rfl) ?_
  refine lv_aload_n hx hb dL_law_522 rfl (lv_at hl 4 rfl) ?_
  refine lv_iload hx hb dL_law_523 (lv_at hl 0 rfl) ?_
  refine lv_iconst (v := 1) hx hb dL_law_525 (by decide) ?_
  refine lv_iadd hx hb dL_law_526 ?_
  refine lv_topi (fun v_1 ev_1 => ?_)
  have rg1 := iv_rng i
  have hv_1 : v_1.toInt = i.toInt + 1 := by rw [ev_1]; exact (iv_add (by omega) (by omega)).trans (by omega)
  clear ev_1
  refine va_sld hx hb hX hbl hbA hS (iv_in (i := v_1) (by omega) (by omega)) dL_law_527 ?_
  refine lv_topi (fun v_2 ev_2 => ?_)
  clear ev_2
  refine lv_aload_n hx hb dL_law_528 rfl (lv_at hl 1 rfl) ?_
  refine W_read (fun hu1 hu2 => ?_)
  have hFc := vfree hDZ hS hA
  refine va_calli (vx_runSW (As := [.ref (c 100), .int v_2, .ref oa]) (rest := []) ⟨hx, hb, hml, hown, hts⟩ (h_L_sent l hl0 dC dI c kc st lg ai al R cap num oa ko fo v_2 _ _ hI) (vx_cwSW 3 hts gL_law_L_sent rfl rfl rfl (by decide +kernel) ⟨Nat.le_of_ble_eq_true rfl, Nat.le_of_ble_eq_true rfl⟩) ⟨fun a U g mk q => by obtain ⟨q0, q1, q2, qP, qK, qO, qD, qG⟩ := q; exact ⟨q0, q1, q2, qP, va_K.moved (u := U) (U := U.calling g mk a) (Vm.Alike.refl U.vm) qK, va_K.moved (u := U) (U := U.calling g mk a) (Vm.Alike.refl U.vm) qO, qD, qG.same rfl rfl⟩, fun U hU hW => ⟨rfl, by rw [hU], by rw [hU], by rw [hU]; exact hPZ, va_K.moved hW.alike hK, va_K.moved hW.alike hKo, hDZ.weaken (fun _ _ _ _ => trivial), hY.go hW hU hS hFc (fun h => ⟨rfl, hcE h⟩)⟩⟩ rfl rfl hl.1 rfl (lv_room (Nat.le_of_ble_eq_true rfl)) dL_law_529 ⟨by show K0 + 2 ≤ 601024; omega, by show M0 + 12 ≤ 7293000; omega⟩) hS (fun q _ h => hFc q h) hFc (fun r u t H1 locs ht hvm er hB hz1 hk1 hS => ?_)
  subst er
  obtain ⟨e9, st9, lg9, ai9, al9, R9, cap9, num9, f9, hI9, hc9, hcp9, hn1, hn2, hs1, hs2, hP9, hD9⟩ := hB
  have hN9 : (cap9 : Int) ≤ 10 + 2 * (st9 13).toInt := by have hI := hI9; obtain ⟨⟨hf3a, hf3b⟩, ⟨hf5a, hf5b⟩, ⟨hf6a, hf6b⟩, ⟨hf9a, hf9b⟩, ⟨hf13a, hf13b⟩, ⟨hf15a, hf15b⟩, ⟨hf17a, hf17b⟩, ⟨hf25a, hf25b⟩, ⟨hf26a, hf26b⟩, ⟨hf27a, hf27b⟩, ⟨hf28a, hf28b⟩, ⟨hf37a, hf37b⟩, hR4, hR7, hR23, hR32, hR33, hPI, hN⟩ := hI; exact hN.1
  have hb9 : (st9 13).toInt ≤ 65536 := by have hI := hI9; obtain ⟨⟨hf3a, hf3b⟩, ⟨hf5a, hf5b⟩, ⟨hf6a, hf6b⟩, ⟨hf9a, hf9b⟩, ⟨hf13a, hf13b⟩, ⟨hf15a, hf15b⟩, ⟨hf17a, hf17b⟩, ⟨hf25a, hf25b⟩, ⟨hf26a, hf26b⟩, ⟨hf27a, hf27b⟩, ⟨hf28a, hf28b⟩, ⟨hf37a, hf37b⟩, hR4, hR7, hR23, hR32, hR33, hPI, hN⟩ := hI; exact hf13b
  rw [ht] at hP9 hs1 hs2
  have hdj9 := dj_new hPY hdj hD9
  have hPY := dj_keep hPY hdj hk1
  have hdj := hdj9
  have hDZ := hD9.weaken (fun _ _ _ h => hFc _ h)
  have hPZ := hP9
  have hcE : cap9 = 0 → (rU c 99 e9) 99 = e0 := fun h => (show e9 = e0 from (hc9 h).2.trans (hcE (hc9 h).1))
  obtain ⟨K1, hK1⟩ : ∃ k9 : Nat, (k9 : Int) = (K0 : Int) + 3 + 3 * ((st9 13).toInt - (st 13).toInt) := ⟨((K0 : Int) + 3 + 3 * ((st9 13).toInt - (st 13).toInt)).toNat, by omega⟩
  obtain ⟨M1, hM1⟩ : ∃ m9 : Nat, (m9 : Int) = (M0 : Int) + 18 + 29 * ((st9 13).toInt - (st 13).toInt) + 4 * ((cap9 : Int) - (cap : Int)) := ⟨((M0 : Int) + 18 + 29 * ((st9 13).toInt - (st 13).toInt) + 4 * ((cap9 : Int) - (cap : Int))).toNat, by omega⟩
  refine W_tight (k' := K1) (m' := M1) (by omega) (by omega) ?_
  clear hz1 hk1 hvm hs1 hs2 hu1 hu2 hP9 hD9 hdj9 hFc
  subst ht
  generalize t.heap = H at hPZ hPY hS ⊢
  refine lv_topi (fun r er9 => ?_)
  clear er9
  refine lv_istore (lv' := [(5, .int r), (4, .int i), (3, .ref oa), (2, .ref o), (1, .ref (c 100)), (0, .ref b)]) hx hb dL_law_532 hl (by decide) rfl (fun ls hl => ?_)
  refine lv_aload_n hx hb dL_law_534 rfl (lv_at hl 3 rfl) ?_
  refine lv_aload_n hx hb dL_law_535 rfl (lv_at hl 5 rfl) ?_
  refine lv_iload hx hb dL_law_536 (lv_at hl 1 rfl) ?_
  refine lv_iconst (v := 1) hx hb dL_law_538 (by decide) ?_
  refine lv_iadd hx hb dL_law_539 ?_
  refine lv_topi (fun v_3 ev_3 => ?_)
  have hv_3 : v_3.toInt = i.toInt + 1 := by rw [ev_3]; exact (iv_add (by omega) (by omega)).trans (by omega)
  clear ev_3
  refine va_sld hx hb hX hbl hbA hS (iv_in (i := v_3) (by omega) (by omega)) dL_law_540 ?_
  refine lv_topi (fun v_4 ev_4 => ?_)
  clear ev_4
  have hFc := vfree (rw_D hDY : va_D A (rw_W o cR kR stR lgR aiR alR)) hS hA
  refine va_calli (va_runV (As := [.int v_4]) (rest := []) ⟨hx, hb, hml, hown, hts⟩ (v_X9_sent l dC dI o cR kR stR lgR aiR alR v_4 _ (show 0 ≤ (stR 3).toInt from rf3a) (show (stR 3).toInt ≤ 1 from rf3b) (show 0 ≤ (stR 7).toInt from rf7a) (show (stR 7).toInt ≤ 1 from rf7b) (show 0 ≤ (stR 15).toInt from rf15a) (show (stR 15).toInt ≤ 128 from rf15b)) (cwV 1 hts gL_law_X9_sent rfl rfl rfl (by decide +kernel) ⟨Nat.le_of_ble_eq_true rfl, Nat.le_of_ble_eq_true rfl⟩) ⟨fun a U g mk q => by obtain ⟨q0, q1, qP, qK, qD⟩ := q; exact ⟨q0, q1, qP, va_K.moved (u := U) (U := U.calling g mk a) (Vm.Alike.refl U.vm) qK, qD⟩, va_recv hKR hPY (ci := 11) (q := (RX9, TX9, 38)) rfl (q0 := 0) rfl, fun U hU hW => ⟨rfl, by rw [hU], by rw [hU]; exact hPY, va_K.moved hW.alike hKR, (rw_D hDY).weaken (fun _ _ _ _ => trivial)⟩⟩ rfl rfl hl.1 rfl (lv_room (Nat.le_of_ble_eq_true rfl)) dL_law_541 ⟨by show K1 + 0 ≤ 601024; omega, by show M1 + 0 ≤ 7293000; omega⟩) hS (fun q _ h => hFc q h) hFc (fun r_5 u t H1 locs ht hvm er_5 hB hz1 hk1 hS => ?_)
  subst er_5
  obtain ⟨x13_5, y90_5, y91_5, hP1⟩ := hB
  rw [ht] at hP1
  have hPZ := dj_keep hPZ (dj_sym (rw_dj (lg' := lgR) (st' := stR) (ai' := aiR) (al' := alR) hdj)) hk1
  clear hPY hz1 hk1 hvm hFc
  subst ht
  have hPY := hP1
  clear hP1
  generalize t.heap = H at hPY hPZ hS ⊢
  have hPY : va_P (dC, dI) vwCl (rw_W o cR kR (rU stR 13 x13_5) lgR aiR alR) H := hPY
  refine lv_istore (lv' := [(6, .int r_5), (5, .int r), (4, .int i), (3, .ref oa), (2, .ref o), (1, .ref (c 100)), (0, .ref b)]) hx hb dL_law_544 hl (by decide) rfl (fun ls hl => ?_)
  refine lv_goto (tgt := 1103) hx hb dL_law_546 (by decide) ?_
  exact kk e9 st9 lg9 ai9 al9 R9 cap9 num9 f9 (rU stR 13 x13_5) lgR aiR alR _ locs ls K1 M1 ⟨hI9, ⟨⟨rf1a, rf1b⟩, ⟨rf2a, rf2b⟩, ⟨rf3a, rf3b⟩, ⟨rf6a, rf6b⟩, ⟨rf7a, rf7b⟩, ⟨rf9a, rf9b⟩, ⟨rf12a, rf12b⟩, ⟨rf15a, rf15b⟩, ⟨rf16a, rf16b⟩, ⟨rf17a, rf17b⟩, ⟨rf21a, rf21b⟩, ⟨rf22a, rf22b⟩, ⟨rf24a, rf24b⟩, ⟨rf26a, rf26b⟩, ⟨rf30a, rf30b⟩, ⟨rf32a, rf32b⟩, ⟨rf37a, rf37b⟩, rR8, rR25, rR31, rR35⟩, hcE, hPZ, hDZ, hPY, rw_D hDY, rw_dj hdj, hS⟩ (lv_sub hl [2, 3, 4, 5, 6] rfl) hcp9 (show (st 13).toInt ≤ (st9 13).toInt by omega) (show (st9 13).toInt ≤ (st 13).toInt + 16 by omega) (by omega) (by omega)

set_option maxHeartbeats 4000000 in
set_option maxRecDepth 100000 in
theorem lwq_9 {p : Program} {e : Env} {s : State} {m : MethodId} {below : List Frame} {meth : Method} {cM : Code} (l : Launch) (hl0 : l.stackTraces = false) {A : Nat → Prop} {dC : Nat → ClassId} {dI : Nat → Nat → Nat} {b L e0 : Nat} {xs : Nat → Int32} (kc kR : Nat → ClassId) (ko : ClassId) (oa o : Nat) (cR : Nat → Nat) (c : Nat → Nat) (st : Nat → Int32) (lg : Nat → Int64) (ai : Nat → Nat → Int32) (al : Nat → Nat → Int64) (R : va_W) (cap : Nat) (num : Nat → Int32) (fo : Nat → Int64) (stR : Nat → Int32) (lgR : Nat → Int64) (aiR : Nat → Nat → Int32) (alR : Nat → Nat → Int64) (H : Heap) (locs : List Loc) (ls : Array Slot) (i : Int32) (K0 M0 : Nat) (C0 : lwB p s m meth cM b L xs A e0) (hK : va_K (dC, dI) vwCl (cw_T kc) s) (hKo : va_K (dC, dI) vwCl [(ko, .long)] s) (hKR : va_K (dC, dI) vwCl (rw_T kR) s) (hS0 : lwS (dC, dI) A s e0 kc kR ko oa o cR c st lg ai al R cap num fo stR lgR aiR alR H locs) (hl : lv_has ls 8 [(4, .int i), (3, .ref oa), (2, .ref o), (1, .ref (c 100)), (0, .ref b)]) (hi : 1 ≤ i.toInt) (hi2 : i.toInt + 4 < (L : Int)) (hL : L ≤ 2561) (hK0 : K0 + 100 ≤ 601024) (hM0 : M0 + 1200000 ≤ 7293000) (kk : ∀ (e9 : Nat) (st9 : Nat → Int32) (lg9 : Nat → Int64) (ai9 : Nat → Nat → Int32) (al9 : Nat → Nat → Int64) (R9 : va_W) (cap9 : Nat) (num9 : Nat → Int32) (f9 : Nat → Int64) (sR9 : Nat → Int32) (lR9 : Nat → Int64) (aR9 : Nat → Nat → Int32) (bR9 : Nat → Nat → Int64) (H : Heap) (locs : List Loc) (ls : Array Slot) (K9 M9 : Nat), lwS (dC, dI) A s e0 kc kR ko oa o cR (rU c 99 e9) st9 lg9 ai9 al9 R9 cap9 num9 f9 sR9 lR9 aR9 bR9 H locs → lv_has ls 8 [(4, .int i), (3, .ref oa), (2, .ref o), (1, .ref (c 100)), (0, .ref b)] → cap ≤ cap9 → (st 13).toInt ≤ (st9 13).toInt → (st9 13).toInt ≤ (st 13).toInt + 16 → (K9 : Int) ≤ (K0 : Int) + 3 + 3 * ((st9 13).toInt - (st 13).toInt) → (M9 : Int) ≤ (M0 : Int) + 18 + 29 * ((st9 13).toInt - (st 13).toInt) + 4 * ((cap9 : Int) - (cap : Int)) → W p l e room_1 s m #[Value.ref b] below meth cM H locs K9 M9 (lw_Z below #[Value.ref b] s) (F0 m 1103 ls [])) : W p l e room_1 s m #[Value.ref b] below meth cM H locs K0 M0 (lw_Z below #[Value.ref b] s) (F0 m 549 ls []) := by
  obtain ⟨hx, hb, hr, hml, hown, hts, hX, hbl, hlocks, hA, hA9, hbA, hY⟩ := C0
  obtain ⟨hI, hJ, hcE, hPZ, hDZ, hPY, hDY, hdj, hS⟩ := hS0
  obtain ⟨⟨rf1a, rf1b⟩, ⟨rf2a, rf2b⟩, ⟨rf3a, rf3b⟩, ⟨rf6a, rf6b⟩, ⟨rf7a, rf7b⟩, ⟨rf9a, rf9b⟩, ⟨rf12a, rf12b⟩, ⟨rf15a, rf15b⟩, ⟨rf16a, rf16b⟩, ⟨rf17a, rf17b⟩, ⟨rf21a, rf21b⟩, ⟨rf22a, rf22b⟩, ⟨rf24a, rf24b⟩, ⟨rf26a, rf26b⟩, ⟨rf30a, rf30b⟩, ⟨rf32a, rf32b⟩, ⟨rf37a, rf37b⟩, rR8, rR25, rR31, rR35⟩ := hJ
  have hG := hY.1
  have hGW := hG.1
  have z_1 : (1 : Int32).toInt = 1 := by decide
  have z_2 : (2 : Int32).toInt = 2 := by decide
  have z_3 : (3 : Int32).toInt = 3 := by decide
  have z_32 : (32 : Int32).toInt = 32 := by decide
  refine lv_aload_n hx hb dL_law_549 rfl (lv_at hl 3 rfl) ?_
  refine lv_aload_n hx hb dL_law_550 rfl (lv_at hl 4 rfl) ?_
  refine lv_iload hx hb dL_law_551 (lv_at hl 0 rfl) ?_
  refine lv_iconst (v := 1) hx hb dL_law_553 (by decide) ?_
  refine lv_iadd hx hb dL_law_554 ?_
  refine lv_topi (fun v_1 ev_1 => ?_)
  have rg1 := iv_rng i
  have hv_1 : v_1.toInt = i.toInt + 1 := by rw [ev_1]; exact (iv_add (by omega) (by omega)).trans (by omega)
  clear ev_1
  refine va_sld hx hb hX hbl hbA hS (iv_in (i := v_1) (by omega) (by omega)) dL_law_555 ?_
  refine lv_topi (fun v_2 ev_2 => ?_)
  clear ev_2
  refine lv_i2l hx hb dL_law_556 rfl ?_
  refine lv_topl (fun w_3 ew_3 => ?_)
  clear ew_3
  refine lv_bipush (v := 32) hx hb dL_law_557 (by decide) ?_
  refine lv_lshl hx hb dL_law_559 rfl ?_
  refine lv_topl (fun w_4 ew_4 => ?_)
  clear ew_4
  refine lv_aload_n hx hb dL_law_560 rfl (lv_at hl 4 rfl) ?_
  refine lv_iload hx hb dL_law_561 (lv_at hl 0 rfl) ?_
  refine lv_iconst (v := 2) hx hb dL_law_563 (by decide) ?_
  refine lv_iadd hx hb dL_law_564 ?_
  refine lv_topi (fun v_5 ev_5 => ?_)
  have hv_5 : v_5.toInt = i.toInt + 2 := by rw [ev_5]; exact (iv_add (by omega) (by omega)).trans (by omega)
  clear ev_5
  refine va_sld hx hb hX hbl hbA hS (iv_in (i := v_5) (by omega) (by omega)) dL_law_565 ?_
  refine lv_topi (fun v_6 ev_6 => ?_)
  clear ev_6
  refine lv_i2l hx hb dL_law_566 rfl ?_
  refine lv_topl (fun w_7 ew_7 => ?_)
  clear ew_7
  refine lv_ldc2 hx hb hown (hts (.constantLong RL 106 (4294967295)) (by decide +kernel)) dL_law_567 ?_
  refine lv_land hx hb dL_law_570 ?_
  refine lv_topl (fun w_8 ew_8 => ?_)
  clear ew_8
  refine lv_lor hx hb dL_law_571 ?_
  refine lv_topl (fun w_9 ew_9 => ?_)
  clear ew_9
  refine lv_aload_n hx hb dL_law_572 rfl (lv_at hl 4 rfl) ?_
  refine lv_iload hx hb dL_law_573 (lv_at hl 0 rfl) ?_
  refine lv_iconst (v := 3) hx hb dL_law_575 (by decide) ?_
  refine lv_iadd hx hb dL_law_576 ?_
  refine lv_topi (fun v_10 ev_10 => ?_)
  have hv_10 : v_10.toInt = i.toInt + 3 := by rw [ev_10]; exact (iv_add (by omega) (by omega)).trans (by omega)
  clear ev_10
  refine va_sld hx hb hX hbl hbA hS (iv_in (i := v_10) (by omega) (by omega)) dL_law_577 ?_
  refine lv_topi (fun v_11 ev_11 => ?_)
  clear ev_11
  refine lv_aload_n hx hb dL_law_578 rfl (lv_at hl 1 rfl) ?_
  refine W_read (fun hu1 hu2 => ?_)
  have hFc := vfree hDZ hS hA
  refine va_calli (vx_runSW (As := [.ref (c 100), .long w_9, .int v_11, .ref oa]) (rest := []) ⟨hx, hb, hml, hown, hts⟩ (h_L_certify l hl0 dC dI c kc st lg ai al R cap num oa ko fo w_9 v_11 _ _ hI) (vx_cwSW 4 hts gL_law_L_certify rfl rfl rfl (by decide +kernel) ⟨Nat.le_of_ble_eq_true rfl, Nat.le_of_ble_eq_true rfl⟩) ⟨fun a U g mk q => by obtain ⟨q0, q1, q2, qP, qK, qO, qD, qG⟩ := q; exact ⟨q0, q1, q2, qP, va_K.moved (u := U) (U := U.calling g mk a) (Vm.Alike.refl U.vm) qK, va_K.moved (u := U) (U := U.calling g mk a) (Vm.Alike.refl U.vm) qO, qD, qG.same rfl rfl⟩, fun U hU hW => ⟨rfl, by rw [hU], by rw [hU], by rw [hU]; exact hPZ, va_K.moved hW.alike hK, va_K.moved hW.alike hKo, hDZ.weaken (fun _ _ _ _ => trivial), hY.go hW hU hS hFc (fun h => ⟨rfl, hcE h⟩)⟩⟩ rfl rfl hl.1 rfl (lv_room (Nat.le_of_ble_eq_true rfl)) dL_law_579 ⟨by show K0 + 2 ≤ 601024; omega, by show M0 + 12 ≤ 7293000; omega⟩) hS (fun q _ h => hFc q h) hFc (fun r u t H1 locs ht hvm er hB hz1 hk1 hS => ?_)
  subst er
  obtain ⟨e9, st9, lg9, ai9, al9, R9, cap9, num9, f9, hI9, hc9, hcp9, hn1, hn2, hs1, hs2, hP9, hD9⟩ := hB
  have hN9 : (cap9 : Int) ≤ 10 + 2 * (st9 13).toInt := by have hI := hI9; obtain ⟨⟨hf3a, hf3b⟩, ⟨hf5a, hf5b⟩, ⟨hf6a, hf6b⟩, ⟨hf9a, hf9b⟩, ⟨hf13a, hf13b⟩, ⟨hf15a, hf15b⟩, ⟨hf17a, hf17b⟩, ⟨hf25a, hf25b⟩, ⟨hf26a, hf26b⟩, ⟨hf27a, hf27b⟩, ⟨hf28a, hf28b⟩, ⟨hf37a, hf37b⟩, hR4, hR7, hR23, hR32, hR33, hPI, hN⟩ := hI; exact hN.1
  have hb9 : (st9 13).toInt ≤ 65536 := by have hI := hI9; obtain ⟨⟨hf3a, hf3b⟩, ⟨hf5a, hf5b⟩, ⟨hf6a, hf6b⟩, ⟨hf9a, hf9b⟩, ⟨hf13a, hf13b⟩, ⟨hf15a, hf15b⟩, ⟨hf17a, hf17b⟩, ⟨hf25a, hf25b⟩, ⟨hf26a, hf26b⟩, ⟨hf27a, hf27b⟩, ⟨hf28a, hf28b⟩, ⟨hf37a, hf37b⟩, hR4, hR7, hR23, hR32, hR33, hPI, hN⟩ := hI; exact hf13b
  rw [ht] at hP9 hs1 hs2
  have hdj9 := dj_new hPY hdj hD9
  have hPY := dj_keep hPY hdj hk1
  have hdj := hdj9
  have hDZ := hD9.weaken (fun _ _ _ h => hFc _ h)
  have hPZ := hP9
  have hcE : cap9 = 0 → (rU c 99 e9) 99 = e0 := fun h => (show e9 = e0 from (hc9 h).2.trans (hcE (hc9 h).1))
  obtain ⟨K1, hK1⟩ : ∃ k9 : Nat, (k9 : Int) = (K0 : Int) + 3 + 3 * ((st9 13).toInt - (st 13).toInt) := ⟨((K0 : Int) + 3 + 3 * ((st9 13).toInt - (st 13).toInt)).toNat, by omega⟩
  obtain ⟨M1, hM1⟩ : ∃ m9 : Nat, (m9 : Int) = (M0 : Int) + 18 + 29 * ((st9 13).toInt - (st 13).toInt) + 4 * ((cap9 : Int) - (cap : Int)) := ⟨((M0 : Int) + 18 + 29 * ((st9 13).toInt - (st 13).toInt) + 4 * ((cap9 : Int) - (cap : Int))).toNat, by omega⟩
  refine W_tight (k' := K1) (m' := M1) (by omega) (by omega) ?_
  clear hz1 hk1 hvm hs1 hs2 hu1 hu2 hP9 hD9 hdj9 hFc
  subst ht
  generalize t.heap = H at hPZ hPY hS ⊢
  refine lv_topi (fun r er9 => ?_)
  clear er9
  refine lv_istore (lv' := [(5, .int r), (4, .int i), (3, .ref oa), (2, .ref o), (1, .ref (c 100)), (0, .ref b)]) hx hb dL_law_582 hl (by decide) rfl (fun ls hl => ?_)
  refine lv_aload_n hx hb dL_law_584 rfl (lv_at hl 3 rfl) ?_
  refine lv_aload_n hx hb dL_law_585 rfl (lv_at hl 5 rfl) ?_
  refine lv_iload hx hb dL_law_586 (lv_at hl 1 rfl) ?_
  refine lv_iconst (v := 1) hx hb dL_law_588 (by decide) ?_
  refine lv_iadd hx hb dL_law_589 ?_
  refine lv_topi (fun v_12 ev_12 => ?_)
  have hv_12 : v_12.toInt = i.toInt + 1 := by rw [ev_12]; exact (iv_add (by omega) (by omega)).trans (by omega)
  clear ev_12
  refine va_sld hx hb hX hbl hbA hS (iv_in (i := v_12) (by omega) (by omega)) dL_law_590 ?_
  refine lv_topi (fun v_13 ev_13 => ?_)
  clear ev_13
  refine lv_i2l hx hb dL_law_591 rfl ?_
  refine lv_topl (fun w_14 ew_14 => ?_)
  clear ew_14
  refine lv_bipush (v := 32) hx hb dL_law_592 (by decide) ?_
  refine lv_lshl hx hb dL_law_594 rfl ?_
  refine lv_topl (fun w_15 ew_15 => ?_)
  clear ew_15
  refine lv_aload_n hx hb dL_law_595 rfl (lv_at hl 5 rfl) ?_
  refine lv_iload hx hb dL_law_596 (lv_at hl 1 rfl) ?_
  refine lv_iconst (v := 2) hx hb dL_law_598 (by decide) ?_
  refine lv_iadd hx hb dL_law_599 ?_
  refine lv_topi (fun v_16 ev_16 => ?_)
  have hv_16 : v_16.toInt = i.toInt + 2 := by rw [ev_16]; exact (iv_add (by omega) (by omega)).trans (by omega)
  clear ev_16
  refine va_sld hx hb hX hbl hbA hS (iv_in (i := v_16) (by omega) (by omega)) dL_law_600 ?_
  refine lv_topi (fun v_17 ev_17 => ?_)
  clear ev_17
  refine lv_i2l hx hb dL_law_601 rfl ?_
  refine lv_topl (fun w_18 ew_18 => ?_)
  clear ew_18
  refine lv_ldc2 hx hb hown (hts (.constantLong RL 106 (4294967295)) (by decide +kernel)) dL_law_602 ?_
  refine lv_land hx hb dL_law_605 ?_
  refine lv_topl (fun w_19 ew_19 => ?_)
  clear ew_19
  refine lv_lor hx hb dL_law_606 ?_
  refine lv_topl (fun w_20 ew_20 => ?_)
  clear ew_20
  refine lv_aload_n hx hb dL_law_607 rfl (lv_at hl 5 rfl) ?_
  refine lv_iload hx hb dL_law_608 (lv_at hl 1 rfl) ?_
  refine lv_iconst (v := 3) hx hb dL_law_610 (by decide) ?_
  refine lv_iadd hx hb dL_law_611 ?_
  refine lv_topi (fun v_21 ev_21 => ?_)
  have hv_21 : v_21.toInt = i.toInt + 3 := by rw [ev_21]; exact (iv_add (by omega) (by omega)).trans (by omega)
  clear ev_21
  refine va_sld hx hb hX hbl hbA hS (iv_in (i := v_21) (by omega) (by omega)) dL_law_612 ?_
  refine lv_topi (fun v_22 ev_22 => ?_)
  clear ev_22
  have hFc := vfree (rw_D hDY : va_D A (rw_W o cR kR stR lgR aiR alR)) hS hA
  refine va_calli (va_runV (As := [.long w_20, .int v_22]) (rest := []) ⟨hx, hb, hml, hown, hts⟩ (v_X9_certify l dC dI o cR kR stR lgR aiR alR w_20 v_22 _ (show 0 ≤ (stR 3).toInt from rf3a) (show (stR 3).toInt ≤ 1 from rf3b) (show 0 ≤ (stR 6).toInt from rf6a) (show (stR 6).toInt ≤ 1 from rf6b) (show 0 ≤ (stR 7).toInt from rf7a) (show (stR 7).toInt ≤ 1 from rf7b) (show 0 ≤ (stR 12).toInt from rf12a) (show (stR 12).toInt ≤ 8 from rf12b) (show 0 ≤ (stR 15).toInt from rf15a) (show (stR 15).toInt ≤ 128 from rf15b) (show 0 ≤ (stR 16).toInt from rf16a) (show (stR 16).toInt ≤ 128 from rf16b) (show 0 ≤ (stR 17).toInt from rf17a) (show (stR 17).toInt ≤ 1 from rf17b) (show -1 ≤ (stR 21).toInt from rf21a) (show (stR 21).toInt ≤ 127 from rf21b) (show 0 ≤ (stR 22).toInt from rf22a) (show (stR 22).toInt ≤ 1000000 from rf22b) (show 0 ≤ (stR 24).toInt from rf24a) (show (stR 24).toInt ≤ 1 from rf24b) (show 0 ≤ (stR 26).toInt from rf26a) (show (stR 26).toInt ≤ 2000000 from rf26b) (show aR (aiR 25) 130 (0) 127 from rR25)) (cwV 2 hts gL_law_X9_certify rfl rfl rfl (by decide +kernel) ⟨Nat.le_of_ble_eq_true rfl, Nat.le_of_ble_eq_true rfl⟩) ⟨fun a U g mk q => by obtain ⟨q0, q1, qP, qK, qD⟩ := q; exact ⟨q0, q1, qP, va_K.moved (u := U) (U := U.calling g mk a) (Vm.Alike.refl U.vm) qK, qD⟩, va_recv hKR hPY (ci := 11) (q := (RX9, TX9, 38)) rfl (q0 := 0) rfl, fun U hU hW => ⟨rfl, by rw [hU], by rw [hU]; exact hPY, va_K.moved hW.alike hKR, (rw_D hDY).weaken (fun _ _ _ _ => trivial)⟩⟩ rfl rfl hl.1 rfl (lv_room (Nat.le_of_ble_eq_true rfl)) dL_law_613 ⟨by show K1 + 0 ≤ 601024; omega, by show M1 + 0 ≤ 7293000; omega⟩) hS (fun q _ h => hFc q h) hFc (fun r_23 u t H1 locs ht hvm er_23 hB hz1 hk1 hS => ?_)
  subst er_23
  obtain ⟨x3_23, x4_23, x5_23, x6_23, x12_23, x13_23, x15_23, x16_23, x17_23, x21_23, x22_23, x24_23, x26_23, y23_23, y27_23, f0_23, f14_23, f19_23, f20_23, f25_23, g18_23, y90_23, y91_23, y92_23, y93_23, y94_23, y95_23, y96_23, y97_23, y98_23, y99_23, y910_23, y911_23, y912_23, y913_23, y914_23, y915_23, y916_23, y917_23, y918_23, y919_23, rR25, hP1⟩ := hB
  rw [ht] at hP1
  have hPZ := dj_keep hPZ (dj_sym (rw_dj (lg' := lgR) (st' := stR) (ai' := aiR) (al' := alR) hdj)) hk1
  clear hPY hz1 hk1 hvm hFc
  subst ht
  have hPY := hP1
  clear hP1
  generalize t.heap = H at hPY hPZ hS ⊢
  have hPY : va_P (dC, dI) vwCl (rw_W o cR kR (rU (rU (rU (rU (rU (rU (rU (rU (rU (rU (rU (rU (rU stR 3 x3_23) 4 x4_23) 5 x5_23) 6 x6_23) 12 x12_23) 13 x13_23) 15 x15_23) 16 x16_23) 17 x17_23) 21 x21_23) 22 x22_23) 24 x24_23) 26 x26_23) (rU (rU lgR 23 y23_23) 27 y27_23) (rU (rU (rU (rU (rU aiR 0 f0_23) 14 f14_23) 19 f19_23) 20 f20_23) 25 f25_23) (rU alR 18 g18_23)) H := hPY
  have rf3a : 0 ≤ x3_23.toInt := y90_23
  have rf3b : x3_23.toInt ≤ 1 := y91_23
  have rf6a : 0 ≤ x6_23.toInt := y92_23
  have rf6b : x6_23.toInt ≤ 1 := y93_23
  have rf12a : 0 ≤ x12_23.toInt := y94_23
  have rf12b : x12_23.toInt ≤ 8 := y95_23
  have rf15a : 0 ≤ x15_23.toInt := y96_23
  have rf15b : x15_23.toInt ≤ 128 := y97_23
  have rf16a : 0 ≤ x16_23.toInt := y98_23
  have rf16b : x16_23.toInt ≤ 128 := y99_23
  have rf17a : 0 ≤ x17_23.toInt := y910_23
  have rf17b : x17_23.toInt ≤ 1 := y911_23
  have rf21a : -1 ≤ x21_23.toInt := y912_23
  have rf21b : x21_23.toInt ≤ 127 := y913_23
  have rf22a : 0 ≤ x22_23.toInt := y914_23
  have rf22b : x22_23.toInt ≤ 1000000 := y915_23
  have rf24a : 0 ≤ x24_23.toInt := y916_23
  have rf24b : x24_23.toInt ≤ 1 := y917_23
  have rf26a : 0 ≤ x26_23.toInt := y918_23
  have rf26b : x26_23.toInt ≤ 2000000 := y919_23
  have rR25 : aR f25_23 130 (0) 127 := rR25
  refine lv_istore (lv' := [(6, .int r_23), (5, .int r), (4, .int i), (3, .ref oa), (2, .ref o), (1, .ref (c 100)), (0, .ref b)]) hx hb dL_law_616 hl (by decide) rfl (fun ls hl => ?_)
  refine lv_goto (tgt := 1103) hx hb dL_law_618 (by decide) ?_
  exact kk e9 st9 lg9 ai9 al9 R9 cap9 num9 f9 (rU (rU (rU (rU (rU (rU (rU (rU (rU (rU (rU (rU (rU stR 3 x3_23) 4 x4_23) 5 x5_23) 6 x6_23) 12 x12_23) 13 x13_23) 15 x15_23) 16 x16_23) 17 x17_23) 21 x21_23) 22 x22_23) 24 x24_23) 26 x26_23) (rU (rU lgR 23 y23_23) 27 y27_23) (rU (rU (rU (rU (rU aiR 0 f0_23) 14 f14_23) 19 f19_23) 20 f20_23) 25 f25_23) (rU alR 18 g18_23) _ locs ls K1 M1 ⟨hI9, ⟨⟨rf1a, rf1b⟩, ⟨rf2a, rf2b⟩, ⟨rf3a, rf3b⟩, ⟨rf6a, rf6b⟩, ⟨rf7a, rf7b⟩, ⟨rf9a, rf9b⟩, ⟨rf12a, rf12b⟩, ⟨rf15a, rf15b⟩, ⟨rf16a, rf16b⟩, ⟨rf17a, rf17b⟩, ⟨rf21a, rf21b⟩, ⟨rf22a, rf22b⟩, ⟨rf24a, rf24b⟩, ⟨rf26a, rf26b⟩, ⟨rf30a, rf30b⟩, ⟨rf32a, rf32b⟩, ⟨rf37a, rf37b⟩, rR8, rR25, rR31, rR35⟩, hcE, hPZ, hDZ, hPY, rw_D hDY, rw_dj hdj, hS⟩ (lv_sub hl [2, 3, 4, 5, 6] rfl) hcp9 (show (st 13).toInt ≤ (st9 13).toInt by omega) (show (st9 13).toInt ≤ (st 13).toInt + 16 by omega) (by omega) (by omega)

set_option maxHeartbeats 4000000 in
set_option maxRecDepth 100000 in
theorem lwq_10 {p : Program} {e : Env} {s : State} {m : MethodId} {below : List Frame} {meth : Method} {cM : Code} (l : Launch) (hl0 : l.stackTraces = false) {A : Nat → Prop} {dC : Nat → ClassId} {dI : Nat → Nat → Nat} {b L e0 : Nat} {xs : Nat → Int32} (kc kR : Nat → ClassId) (ko : ClassId) (oa o : Nat) (cR : Nat → Nat) (c : Nat → Nat) (st : Nat → Int32) (lg : Nat → Int64) (ai : Nat → Nat → Int32) (al : Nat → Nat → Int64) (R : va_W) (cap : Nat) (num : Nat → Int32) (fo : Nat → Int64) (stR : Nat → Int32) (lgR : Nat → Int64) (aiR : Nat → Nat → Int32) (alR : Nat → Nat → Int64) (H : Heap) (locs : List Loc) (ls : Array Slot) (i : Int32) (K0 M0 : Nat) (C0 : lwB p s m meth cM b L xs A e0) (hK : va_K (dC, dI) vwCl (cw_T kc) s) (hKo : va_K (dC, dI) vwCl [(ko, .long)] s) (hKR : va_K (dC, dI) vwCl (rw_T kR) s) (hS0 : lwS (dC, dI) A s e0 kc kR ko oa o cR c st lg ai al R cap num fo stR lgR aiR alR H locs) (hl : lv_has ls 8 [(4, .int i), (3, .ref oa), (2, .ref o), (1, .ref (c 100)), (0, .ref b)]) (hi : 1 ≤ i.toInt) (hi2 : i.toInt + 4 < (L : Int)) (hL : L ≤ 2561) (hK0 : K0 + 100 ≤ 601024) (hM0 : M0 + 1200000 ≤ 7293000) (kk : ∀ (e9 : Nat) (st9 : Nat → Int32) (lg9 : Nat → Int64) (ai9 : Nat → Nat → Int32) (al9 : Nat → Nat → Int64) (R9 : va_W) (cap9 : Nat) (num9 : Nat → Int32) (f9 : Nat → Int64) (sR9 : Nat → Int32) (lR9 : Nat → Int64) (aR9 : Nat → Nat → Int32) (bR9 : Nat → Nat → Int64) (H : Heap) (locs : List Loc) (ls : Array Slot) (K9 M9 : Nat), lwS (dC, dI) A s e0 kc kR ko oa o cR (rU c 99 e9) st9 lg9 ai9 al9 R9 cap9 num9 f9 sR9 lR9 aR9 bR9 H locs → lv_has ls 8 [(4, .int i), (3, .ref oa), (2, .ref o), (1, .ref (c 100)), (0, .ref b)] → cap ≤ cap9 → (st 13).toInt ≤ (st9 13).toInt → (st9 13).toInt ≤ (st 13).toInt + 16 → (K9 : Int) ≤ (K0 : Int) + 3 + 3 * ((st9 13).toInt - (st 13).toInt) → (M9 : Int) ≤ (M0 : Int) + 18 + 29 * ((st9 13).toInt - (st 13).toInt) + 4 * ((cap9 : Int) - (cap : Int)) → W p l e room_1 s m #[Value.ref b] below meth cM H locs K9 M9 (lw_Z below #[Value.ref b] s) (F0 m 1103 ls [])) : W p l e room_1 s m #[Value.ref b] below meth cM H locs K0 M0 (lw_Z below #[Value.ref b] s) (F0 m 621 ls []) := by
  obtain ⟨hx, hb, hr, hml, hown, hts, hX, hbl, hlocks, hA, hA9, hbA, hY⟩ := C0
  obtain ⟨hI, hJ, hcE, hPZ, hDZ, hPY, hDY, hdj, hS⟩ := hS0
  obtain ⟨⟨rf1a, rf1b⟩, ⟨rf2a, rf2b⟩, ⟨rf3a, rf3b⟩, ⟨rf6a, rf6b⟩, ⟨rf7a, rf7b⟩, ⟨rf9a, rf9b⟩, ⟨rf12a, rf12b⟩, ⟨rf15a, rf15b⟩, ⟨rf16a, rf16b⟩, ⟨rf17a, rf17b⟩, ⟨rf21a, rf21b⟩, ⟨rf22a, rf22b⟩, ⟨rf24a, rf24b⟩, ⟨rf26a, rf26b⟩, ⟨rf30a, rf30b⟩, ⟨rf32a, rf32b⟩, ⟨rf37a, rf37b⟩, rR8, rR25, rR31, rR35⟩ := hJ
  have hG := hY.1
  have hGW := hG.1
  have z_1 : (1 : Int32).toInt = 1 := by decide
  refine lv_aload_n hx hb dL_law_621 rfl (lv_at hl 3 rfl) ?_
  refine lv_aload_n hx hb dL_law_622 rfl (lv_at hl 4 rfl) ?_
  refine lv_iload hx hb dL_law_623 (lv_at hl 0 rfl) ?_
  refine lv_iconst (v := 1) hx hb dL_law_625 (by decide) ?_
  refine lv_iadd hx hb dL_law_626 ?_
  refine lv_topi (fun v_1 ev_1 => ?_)
  have rg1 := iv_rng i
  have hv_1 : v_1.toInt = i.toInt + 1 := by rw [ev_1]; exact (iv_add (by omega) (by omega)).trans (by omega)
  clear ev_1
  refine va_sld hx hb hX hbl hbA hS (iv_in (i := v_1) (by omega) (by omega)) dL_law_627 ?_
  refine lv_topi (fun v_2 ev_2 => ?_)
  clear ev_2
  refine lv_aload_n hx hb dL_law_628 rfl (lv_at hl 1 rfl) ?_
  refine W_read (fun hu1 hu2 => ?_)
  have hFc := vfree hDZ hS hA
  refine va_calli (vx_runSW (As := [.ref (c 100), .int v_2, .ref oa]) (rest := []) ⟨hx, hb, hml, hown, hts⟩ (h_L_version l hl0 dC dI c kc st lg ai al R cap num oa ko fo v_2 _ _ hI) (vx_cwSW 3 hts gL_law_L_version rfl rfl rfl (by decide +kernel) ⟨Nat.le_of_ble_eq_true rfl, Nat.le_of_ble_eq_true rfl⟩) ⟨fun a U g mk q => by obtain ⟨q0, q1, q2, qP, qK, qO, qD, qG⟩ := q; exact ⟨q0, q1, q2, qP, va_K.moved (u := U) (U := U.calling g mk a) (Vm.Alike.refl U.vm) qK, va_K.moved (u := U) (U := U.calling g mk a) (Vm.Alike.refl U.vm) qO, qD, qG.same rfl rfl⟩, fun U hU hW => ⟨rfl, by rw [hU], by rw [hU], by rw [hU]; exact hPZ, va_K.moved hW.alike hK, va_K.moved hW.alike hKo, hDZ.weaken (fun _ _ _ _ => trivial), hY.go hW hU hS hFc (fun h => ⟨rfl, hcE h⟩)⟩⟩ rfl rfl hl.1 rfl (lv_room (Nat.le_of_ble_eq_true rfl)) dL_law_629 ⟨by show K0 + 2 ≤ 601024; omega, by show M0 + 12 ≤ 7293000; omega⟩) hS (fun q _ h => hFc q h) hFc (fun r u t H1 locs ht hvm er hB hz1 hk1 hS => ?_)
  subst er
  obtain ⟨e9, st9, lg9, ai9, al9, R9, cap9, num9, f9, hI9, hc9, hcp9, hn1, hn2, hs1, hs2, hP9, hD9⟩ := hB
  have hN9 : (cap9 : Int) ≤ 10 + 2 * (st9 13).toInt := by have hI := hI9; obtain ⟨⟨hf3a, hf3b⟩, ⟨hf5a, hf5b⟩, ⟨hf6a, hf6b⟩, ⟨hf9a, hf9b⟩, ⟨hf13a, hf13b⟩, ⟨hf15a, hf15b⟩, ⟨hf17a, hf17b⟩, ⟨hf25a, hf25b⟩, ⟨hf26a, hf26b⟩, ⟨hf27a, hf27b⟩, ⟨hf28a, hf28b⟩, ⟨hf37a, hf37b⟩, hR4, hR7, hR23, hR32, hR33, hPI, hN⟩ := hI; exact hN.1
  have hb9 : (st9 13).toInt ≤ 65536 := by have hI := hI9; obtain ⟨⟨hf3a, hf3b⟩, ⟨hf5a, hf5b⟩, ⟨hf6a, hf6b⟩, ⟨hf9a, hf9b⟩, ⟨hf13a, hf13b⟩, ⟨hf15a, hf15b⟩, ⟨hf17a, hf17b⟩, ⟨hf25a, hf25b⟩, ⟨hf26a, hf26b⟩, ⟨hf27a, hf27b⟩, ⟨hf28a, hf28b⟩, ⟨hf37a, hf37b⟩, hR4, hR7, hR23, hR32, hR33, hPI, hN⟩ := hI; exact hf13b
  rw [ht] at hP9 hs1 hs2
  have hdj9 := dj_new hPY hdj hD9
  have hPY := dj_keep hPY hdj hk1
  have hdj := hdj9
  have hDZ := hD9.weaken (fun _ _ _ h => hFc _ h)
  have hPZ := hP9
  have hcE : cap9 = 0 → (rU c 99 e9) 99 = e0 := fun h => (show e9 = e0 from (hc9 h).2.trans (hcE (hc9 h).1))
  obtain ⟨K1, hK1⟩ : ∃ k9 : Nat, (k9 : Int) = (K0 : Int) + 3 + 3 * ((st9 13).toInt - (st 13).toInt) := ⟨((K0 : Int) + 3 + 3 * ((st9 13).toInt - (st 13).toInt)).toNat, by omega⟩
  obtain ⟨M1, hM1⟩ : ∃ m9 : Nat, (m9 : Int) = (M0 : Int) + 18 + 29 * ((st9 13).toInt - (st 13).toInt) + 4 * ((cap9 : Int) - (cap : Int)) := ⟨((M0 : Int) + 18 + 29 * ((st9 13).toInt - (st 13).toInt) + 4 * ((cap9 : Int) - (cap : Int))).toNat, by omega⟩
  refine W_tight (k' := K1) (m' := M1) (by omega) (by omega) ?_
  clear hz1 hk1 hvm hs1 hs2 hu1 hu2 hP9 hD9 hdj9 hFc
  subst ht
  generalize t.heap = H at hPZ hPY hS ⊢
  refine lv_topi (fun r er9 => ?_)
  clear er9
  refine lv_istore (lv' := [(5, .int r), (4, .int i), (3, .ref oa), (2, .ref o), (1, .ref (c 100)), (0, .ref b)]) hx hb dL_law_632 hl (by decide) rfl (fun ls hl => ?_)
  refine lv_aload_n hx hb dL_law_634 rfl (lv_at hl 3 rfl) ?_
  refine lv_aload_n hx hb dL_law_635 rfl (lv_at hl 5 rfl) ?_
  refine lv_iload hx hb dL_law_636 (lv_at hl 1 rfl) ?_
  refine lv_iconst (v := 1) hx hb dL_law_638 (by decide) ?_
  refine lv_iadd hx hb dL_law_639 ?_
  refine lv_topi (fun v_3 ev_3 => ?_)
  have hv_3 : v_3.toInt = i.toInt + 1 := by rw [ev_3]; exact (iv_add (by omega) (by omega)).trans (by omega)
  clear ev_3
  refine va_sld hx hb hX hbl hbA hS (iv_in (i := v_3) (by omega) (by omega)) dL_law_640 ?_
  refine lv_topi (fun v_4 ev_4 => ?_)
  clear ev_4
  have hFc := vfree (rw_D hDY : va_D A (rw_W o cR kR stR lgR aiR alR)) hS hA
  refine va_calli (va_runV (As := [.int v_4]) (rest := []) ⟨hx, hb, hml, hown, hts⟩ (v_X9_version l dC dI o cR kR stR lgR aiR alR v_4 _ (show 0 ≤ (stR 3).toInt from rf3a) (show (stR 3).toInt ≤ 1 from rf3b) (show 0 ≤ (stR 7).toInt from rf7a) (show (stR 7).toInt ≤ 1 from rf7b) (show 0 ≤ (stR 15).toInt from rf15a) (show (stR 15).toInt ≤ 128 from rf15b) (show 0 ≤ (stR 16).toInt from rf16a) (show (stR 16).toInt ≤ 128 from rf16b) (show 0 ≤ (stR 17).toInt from rf17a) (show (stR 17).toInt ≤ 1 from rf17b) (show -1 ≤ (stR 21).toInt from rf21a) (show (stR 21).toInt ≤ 127 from rf21b) (show 0 ≤ (stR 22).toInt from rf22a) (show (stR 22).toInt ≤ 1000000 from rf22b) (show 0 ≤ (stR 24).toInt from rf24a) (show (stR 24).toInt ≤ 1 from rf24b) (show 0 ≤ (stR 26).toInt from rf26a) (show (stR 26).toInt ≤ 2000000 from rf26b) (show aR (aiR 25) 130 (0) 127 from rR25)) (cwV 1 hts gL_law_X9_version rfl rfl rfl (by decide +kernel) ⟨Nat.le_of_ble_eq_true rfl, Nat.le_of_ble_eq_true rfl⟩) ⟨fun a U g mk q => by obtain ⟨q0, q1, qP, qK, qD⟩ := q; exact ⟨q0, q1, qP, va_K.moved (u := U) (U := U.calling g mk a) (Vm.Alike.refl U.vm) qK, qD⟩, va_recv hKR hPY (ci := 11) (q := (RX9, TX9, 38)) rfl (q0 := 0) rfl, fun U hU hW => ⟨rfl, by rw [hU], by rw [hU]; exact hPY, va_K.moved hW.alike hKR, (rw_D hDY).weaken (fun _ _ _ _ => trivial)⟩⟩ rfl rfl hl.1 rfl (lv_room (Nat.le_of_ble_eq_true rfl)) dL_law_641 ⟨by show K1 + 0 ≤ 601024; omega, by show M1 + 0 ≤ 7293000; omega⟩) hS (fun q _ h => hFc q h) hFc (fun r_5 u t H1 locs ht hvm er_5 hB hz1 hk1 hS => ?_)
  subst er_5
  obtain ⟨x13_5, x16_5, x17_5, x21_5, x22_5, x24_5, x26_5, y23_5, y27_5, f19_5, f20_5, f25_5, g18_5, y90_5, y91_5, y92_5, y93_5, y94_5, y95_5, y96_5, y97_5, y98_5, y99_5, y910_5, y911_5, rR25, hP1⟩ := hB
  rw [ht] at hP1
  have hPZ := dj_keep hPZ (dj_sym (rw_dj (lg' := lgR) (st' := stR) (ai' := aiR) (al' := alR) hdj)) hk1
  clear hPY hz1 hk1 hvm hFc
  subst ht
  have hPY := hP1
  clear hP1
  generalize t.heap = H at hPY hPZ hS ⊢
  have hPY : va_P (dC, dI) vwCl (rw_W o cR kR (rU (rU (rU (rU (rU (rU (rU stR 13 x13_5) 16 x16_5) 17 x17_5) 21 x21_5) 22 x22_5) 24 x24_5) 26 x26_5) (rU (rU lgR 23 y23_5) 27 y27_5) (rU (rU (rU aiR 19 f19_5) 20 f20_5) 25 f25_5) (rU alR 18 g18_5)) H := hPY
  have rf16a : 0 ≤ x16_5.toInt := y90_5
  have rf16b : x16_5.toInt ≤ 128 := y91_5
  have rf17a : 0 ≤ x17_5.toInt := y92_5
  have rf17b : x17_5.toInt ≤ 1 := y93_5
  have rf21a : -1 ≤ x21_5.toInt := y94_5
  have rf21b : x21_5.toInt ≤ 127 := y95_5
  have rf22a : 0 ≤ x22_5.toInt := y96_5
  have rf22b : x22_5.toInt ≤ 1000000 := y97_5
  have rf24a : 0 ≤ x24_5.toInt := y98_5
  have rf24b : x24_5.toInt ≤ 1 := y99_5
  have rf26a : 0 ≤ x26_5.toInt := y910_5
  have rf26b : x26_5.toInt ≤ 2000000 := y911_5
  have rR25 : aR f25_5 130 (0) 127 := rR25
  refine lv_istore (lv' := [(6, .int r_5), (5, .int r), (4, .int i), (3, .ref oa), (2, .ref o), (1, .ref (c 100)), (0, .ref b)]) hx hb dL_law_644 hl (by decide) rfl (fun ls hl => ?_)
  refine lv_goto (tgt := 1103) hx hb dL_law_646 (by decide) ?_
  exact kk e9 st9 lg9 ai9 al9 R9 cap9 num9 f9 (rU (rU (rU (rU (rU (rU (rU stR 13 x13_5) 16 x16_5) 17 x17_5) 21 x21_5) 22 x22_5) 24 x24_5) 26 x26_5) (rU (rU lgR 23 y23_5) 27 y27_5) (rU (rU (rU aiR 19 f19_5) 20 f20_5) 25 f25_5) (rU alR 18 g18_5) _ locs ls K1 M1 ⟨hI9, ⟨⟨rf1a, rf1b⟩, ⟨rf2a, rf2b⟩, ⟨rf3a, rf3b⟩, ⟨rf6a, rf6b⟩, ⟨rf7a, rf7b⟩, ⟨rf9a, rf9b⟩, ⟨rf12a, rf12b⟩, ⟨rf15a, rf15b⟩, ⟨rf16a, rf16b⟩, ⟨rf17a, rf17b⟩, ⟨rf21a, rf21b⟩, ⟨rf22a, rf22b⟩, ⟨rf24a, rf24b⟩, ⟨rf26a, rf26b⟩, ⟨rf30a, rf30b⟩, ⟨rf32a, rf32b⟩, ⟨rf37a, rf37b⟩, rR8, rR25, rR31, rR35⟩, hcE, hPZ, hDZ, hPY, rw_D hDY, rw_dj hdj, hS⟩ (lv_sub hl [2, 3, 4, 5, 6] rfl) hcp9 (show (st 13).toInt ≤ (st9 13).toInt by omega) (show (st9 13).toInt ≤ (st 13).toInt + 16 by omega) (by omega) (by omega)

set_option maxHeartbeats 4000000 in
set_option maxRecDepth 100000 in
theorem lwq_11 {p : Program} {e : Env} {s : State} {m : MethodId} {below : List Frame} {meth : Method} {cM : Code} (l : Launch) (hl0 : l.stackTraces = false) {A : Nat → Prop} {dC : Nat → ClassId} {dI : Nat → Nat → Nat} {b L e0 : Nat} {xs : Nat → Int32} (kc kR : Nat → ClassId) (ko : ClassId) (oa o : Nat) (cR : Nat → Nat) (c : Nat → Nat) (st : Nat → Int32) (lg : Nat → Int64) (ai : Nat → Nat → Int32) (al : Nat → Nat → Int64) (R : va_W) (cap : Nat) (num : Nat → Int32) (fo : Nat → Int64) (stR : Nat → Int32) (lgR : Nat → Int64) (aiR : Nat → Nat → Int32) (alR : Nat → Nat → Int64) (H : Heap) (locs : List Loc) (ls : Array Slot) (i : Int32) (K0 M0 : Nat) (C0 : lwB p s m meth cM b L xs A e0) (hK : va_K (dC, dI) vwCl (cw_T kc) s) (hKo : va_K (dC, dI) vwCl [(ko, .long)] s) (hKR : va_K (dC, dI) vwCl (rw_T kR) s) (hS0 : lwS (dC, dI) A s e0 kc kR ko oa o cR c st lg ai al R cap num fo stR lgR aiR alR H locs) (hl : lv_has ls 8 [(4, .int i), (3, .ref oa), (2, .ref o), (1, .ref (c 100)), (0, .ref b)]) (hi : 1 ≤ i.toInt) (hi2 : i.toInt + 4 < (L : Int)) (hL : L ≤ 2561) (hK0 : K0 + 100 ≤ 601024) (hM0 : M0 + 1200000 ≤ 7293000) (kk : ∀ (e9 : Nat) (st9 : Nat → Int32) (lg9 : Nat → Int64) (ai9 : Nat → Nat → Int32) (al9 : Nat → Nat → Int64) (R9 : va_W) (cap9 : Nat) (num9 : Nat → Int32) (f9 : Nat → Int64) (sR9 : Nat → Int32) (lR9 : Nat → Int64) (aR9 : Nat → Nat → Int32) (bR9 : Nat → Nat → Int64) (H : Heap) (locs : List Loc) (ls : Array Slot) (K9 M9 : Nat), lwS (dC, dI) A s e0 kc kR ko oa o cR (rU c 99 e9) st9 lg9 ai9 al9 R9 cap9 num9 f9 sR9 lR9 aR9 bR9 H locs → lv_has ls 8 [(4, .int i), (3, .ref oa), (2, .ref o), (1, .ref (c 100)), (0, .ref b)] → cap ≤ cap9 → (st 13).toInt ≤ (st9 13).toInt → (st9 13).toInt ≤ (st 13).toInt + 16 → (K9 : Int) ≤ (K0 : Int) + 3 + 3 * ((st9 13).toInt - (st 13).toInt) → (M9 : Int) ≤ (M0 : Int) + 18 + 29 * ((st9 13).toInt - (st 13).toInt) + 4 * ((cap9 : Int) - (cap : Int)) → W p l e room_1 s m #[Value.ref b] below meth cM H locs K9 M9 (lw_Z below #[Value.ref b] s) (F0 m 1103 ls [])) : W p l e room_1 s m #[Value.ref b] below meth cM H locs K0 M0 (lw_Z below #[Value.ref b] s) (F0 m 649 ls []) := by
  obtain ⟨hx, hb, hr, hml, hown, hts, hX, hbl, hlocks, hA, hA9, hbA, hY⟩ := C0
  obtain ⟨hI, hJ, hcE, hPZ, hDZ, hPY, hDY, hdj, hS⟩ := hS0
  obtain ⟨⟨rf1a, rf1b⟩, ⟨rf2a, rf2b⟩, ⟨rf3a, rf3b⟩, ⟨rf6a, rf6b⟩, ⟨rf7a, rf7b⟩, ⟨rf9a, rf9b⟩, ⟨rf12a, rf12b⟩, ⟨rf15a, rf15b⟩, ⟨rf16a, rf16b⟩, ⟨rf17a, rf17b⟩, ⟨rf21a, rf21b⟩, ⟨rf22a, rf22b⟩, ⟨rf24a, rf24b⟩, ⟨rf26a, rf26b⟩, ⟨rf30a, rf30b⟩, ⟨rf32a, rf32b⟩, ⟨rf37a, rf37b⟩, rR8, rR25, rR31, rR35⟩ := hJ
  have hG := hY.1
  have hGW := hG.1
  have z_1 : (1 : Int32).toInt = 1 := by decide
  have z_2 : (2 : Int32).toInt = 2 := by decide
  refine lv_aload_n hx hb dL_law_649 rfl (lv_at hl 3 rfl) ?_
  refine lv_aload_n hx hb dL_law_650 rfl (lv_at hl 4 rfl) ?_
  refine lv_iload hx hb dL_law_651 (lv_at hl 0 rfl) ?_
  refine lv_iconst (v := 1) hx hb dL_law_653 (by decide) ?_
  refine lv_iadd hx hb dL_law_654 ?_
  refine lv_topi (fun v_1 ev_1 => ?_)
  have rg1 := iv_rng i
  have hv_1 : v_1.toInt = i.toInt + 1 := by rw [ev_1]; exact (iv_add (by omega) (by omega)).trans (by omega)
  clear ev_1
  refine va_sld hx hb hX hbl hbA hS (iv_in (i := v_1) (by omega) (by omega)) dL_law_655 ?_
  refine lv_topi (fun v_2 ev_2 => ?_)
  clear ev_2
  refine lv_aload_n hx hb dL_law_656 rfl (lv_at hl 4 rfl) ?_
  refine lv_iload hx hb dL_law_657 (lv_at hl 0 rfl) ?_
  refine lv_iconst (v := 2) hx hb dL_law_659 (by decide) ?_
  refine lv_iadd hx hb dL_law_660 ?_
  refine lv_topi (fun v_3 ev_3 => ?_)
  have hv_3 : v_3.toInt = i.toInt + 2 := by rw [ev_3]; exact (iv_add (by omega) (by omega)).trans (by omega)
  clear ev_3
  refine va_sld hx hb hX hbl hbA hS (iv_in (i := v_3) (by omega) (by omega)) dL_law_661 ?_
  refine lv_topi (fun v_4 ev_4 => ?_)
  clear ev_4
  refine lv_aload_n hx hb dL_law_662 rfl (lv_at hl 1 rfl) ?_
  refine W_read (fun hu1 hu2 => ?_)
  have hFc := vfree hDZ hS hA
  refine va_calli (vx_runSW (As := [.ref (c 100), .int v_2, .int v_4, .ref oa]) (rest := []) ⟨hx, hb, hml, hown, hts⟩ (h_L_slot l hl0 dC dI c kc st lg ai al R cap num oa ko fo v_2 v_4 _ _ hI) (vx_cwSW 4 hts gL_law_L_slot rfl rfl rfl (by decide +kernel) ⟨Nat.le_of_ble_eq_true rfl, Nat.le_of_ble_eq_true rfl⟩) ⟨fun a U g mk q => by obtain ⟨q0, q1, q2, qP, qK, qO, qD, qG⟩ := q; exact ⟨q0, q1, q2, qP, va_K.moved (u := U) (U := U.calling g mk a) (Vm.Alike.refl U.vm) qK, va_K.moved (u := U) (U := U.calling g mk a) (Vm.Alike.refl U.vm) qO, qD, qG.same rfl rfl⟩, fun U hU hW => ⟨rfl, by rw [hU], by rw [hU], by rw [hU]; exact hPZ, va_K.moved hW.alike hK, va_K.moved hW.alike hKo, hDZ.weaken (fun _ _ _ _ => trivial), hY.go hW hU hS hFc (fun h => ⟨rfl, hcE h⟩)⟩⟩ rfl rfl hl.1 rfl (lv_room (Nat.le_of_ble_eq_true rfl)) dL_law_663 ⟨by show K0 + 2 ≤ 601024; omega, by show M0 + 12 ≤ 7293000; omega⟩) hS (fun q _ h => hFc q h) hFc (fun r u t H1 locs ht hvm er hB hz1 hk1 hS => ?_)
  subst er
  obtain ⟨e9, st9, lg9, ai9, al9, R9, cap9, num9, f9, hI9, hc9, hcp9, hn1, hn2, hs1, hs2, hP9, hD9⟩ := hB
  have hN9 : (cap9 : Int) ≤ 10 + 2 * (st9 13).toInt := by have hI := hI9; obtain ⟨⟨hf3a, hf3b⟩, ⟨hf5a, hf5b⟩, ⟨hf6a, hf6b⟩, ⟨hf9a, hf9b⟩, ⟨hf13a, hf13b⟩, ⟨hf15a, hf15b⟩, ⟨hf17a, hf17b⟩, ⟨hf25a, hf25b⟩, ⟨hf26a, hf26b⟩, ⟨hf27a, hf27b⟩, ⟨hf28a, hf28b⟩, ⟨hf37a, hf37b⟩, hR4, hR7, hR23, hR32, hR33, hPI, hN⟩ := hI; exact hN.1
  have hb9 : (st9 13).toInt ≤ 65536 := by have hI := hI9; obtain ⟨⟨hf3a, hf3b⟩, ⟨hf5a, hf5b⟩, ⟨hf6a, hf6b⟩, ⟨hf9a, hf9b⟩, ⟨hf13a, hf13b⟩, ⟨hf15a, hf15b⟩, ⟨hf17a, hf17b⟩, ⟨hf25a, hf25b⟩, ⟨hf26a, hf26b⟩, ⟨hf27a, hf27b⟩, ⟨hf28a, hf28b⟩, ⟨hf37a, hf37b⟩, hR4, hR7, hR23, hR32, hR33, hPI, hN⟩ := hI; exact hf13b
  rw [ht] at hP9 hs1 hs2
  have hdj9 := dj_new hPY hdj hD9
  have hPY := dj_keep hPY hdj hk1
  have hdj := hdj9
  have hDZ := hD9.weaken (fun _ _ _ h => hFc _ h)
  have hPZ := hP9
  have hcE : cap9 = 0 → (rU c 99 e9) 99 = e0 := fun h => (show e9 = e0 from (hc9 h).2.trans (hcE (hc9 h).1))
  obtain ⟨K1, hK1⟩ : ∃ k9 : Nat, (k9 : Int) = (K0 : Int) + 3 + 3 * ((st9 13).toInt - (st 13).toInt) := ⟨((K0 : Int) + 3 + 3 * ((st9 13).toInt - (st 13).toInt)).toNat, by omega⟩
  obtain ⟨M1, hM1⟩ : ∃ m9 : Nat, (m9 : Int) = (M0 : Int) + 18 + 29 * ((st9 13).toInt - (st 13).toInt) + 4 * ((cap9 : Int) - (cap : Int)) := ⟨((M0 : Int) + 18 + 29 * ((st9 13).toInt - (st 13).toInt) + 4 * ((cap9 : Int) - (cap : Int))).toNat, by omega⟩
  refine W_tight (k' := K1) (m' := M1) (by omega) (by omega) ?_
  clear hz1 hk1 hvm hs1 hs2 hu1 hu2 hP9 hD9 hdj9 hFc
  subst ht
  generalize t.heap = H at hPZ hPY hS ⊢
  refine lv_topi (fun r er9 => ?_)
  clear er9
  refine lv_istore (lv' := [(5, .int r), (4, .int i), (3, .ref oa), (2, .ref o), (1, .ref (c 100)), (0, .ref b)]) hx hb dL_law_666 hl (by decide) rfl (fun ls hl => ?_)
  refine lv_aload_n hx hb dL_law_668 rfl (lv_at hl 3 rfl) ?_
  refine lv_aload_n hx hb dL_law_669 rfl (lv_at hl 5 rfl) ?_
  refine lv_iload hx hb dL_law_670 (lv_at hl 1 rfl) ?_
  refine lv_iconst (v := 1) hx hb dL_law_672 (by decide) ?_
  refine lv_iadd hx hb dL_law_673 ?_
  refine lv_topi (fun v_5 ev_5 => ?_)
  have hv_5 : v_5.toInt = i.toInt + 1 := by rw [ev_5]; exact (iv_add (by omega) (by omega)).trans (by omega)
  clear ev_5
  refine va_sld hx hb hX hbl hbA hS (iv_in (i := v_5) (by omega) (by omega)) dL_law_674 ?_
  refine lv_topi (fun v_6 ev_6 => ?_)
  clear ev_6
  refine lv_aload_n hx hb dL_law_675 rfl (lv_at hl 5 rfl) ?_
  refine lv_iload hx hb dL_law_676 (lv_at hl 1 rfl) ?_
  refine lv_iconst (v := 2) hx hb dL_law_678 (by decide) ?_
  refine lv_iadd hx hb dL_law_679 ?_
  refine lv_topi (fun v_7 ev_7 => ?_)
  have hv_7 : v_7.toInt = i.toInt + 2 := by rw [ev_7]; exact (iv_add (by omega) (by omega)).trans (by omega)
  clear ev_7
  refine va_sld hx hb hX hbl hbA hS (iv_in (i := v_7) (by omega) (by omega)) dL_law_680 ?_
  refine lv_topi (fun v_8 ev_8 => ?_)
  clear ev_8
  have hFc := vfree (rw_D hDY : va_D A (rw_W o cR kR stR lgR aiR alR)) hS hA
  refine va_calll (va_runV (As := [.int v_6, .int v_8]) (rest := []) ⟨hx, hb, hml, hown, hts⟩ (v_X9_slot l dC dI o cR kR stR lgR aiR alR v_6 v_8 _ (show 0 ≤ (stR 3).toInt from rf3a) (show (stR 3).toInt ≤ 1 from rf3b) (show 0 ≤ (stR 7).toInt from rf7a) (show (stR 7).toInt ≤ 1 from rf7b) (show 0 ≤ (stR 15).toInt from rf15a) (show (stR 15).toInt ≤ 128 from rf15b) (show 0 ≤ (stR 16).toInt from rf16a) (show (stR 16).toInt ≤ 128 from rf16b) (show 0 ≤ (stR 17).toInt from rf17a) (show (stR 17).toInt ≤ 1 from rf17b) (show -1 ≤ (stR 21).toInt from rf21a) (show (stR 21).toInt ≤ 127 from rf21b) (show 0 ≤ (stR 22).toInt from rf22a) (show (stR 22).toInt ≤ 1000000 from rf22b) (show 0 ≤ (stR 24).toInt from rf24a) (show (stR 24).toInt ≤ 1 from rf24b) (show 0 ≤ (stR 26).toInt from rf26a) (show (stR 26).toInt ≤ 2000000 from rf26b) (show aR (aiR 25) 130 (0) 127 from rR25)) (cwV 2 hts gL_law_X9_slot rfl rfl rfl (by decide +kernel) ⟨Nat.le_of_ble_eq_true rfl, Nat.le_of_ble_eq_true rfl⟩) ⟨fun a U g mk q => by obtain ⟨q0, q1, qP, qK, qD⟩ := q; exact ⟨q0, q1, qP, va_K.moved (u := U) (U := U.calling g mk a) (Vm.Alike.refl U.vm) qK, qD⟩, va_recv hKR hPY (ci := 11) (q := (RX9, TX9, 38)) rfl (q0 := 0) rfl, fun U hU hW => ⟨rfl, by rw [hU], by rw [hU]; exact hPY, va_K.moved hW.alike hKR, (rw_D hDY).weaken (fun _ _ _ _ => trivial)⟩⟩ rfl rfl hl.1 rfl (lv_room (Nat.le_of_ble_eq_true rfl)) dL_law_681 ⟨by show K1 + 0 ≤ 601024; omega, by show M1 + 0 ≤ 7293000; omega⟩) hS (fun q _ h => hFc q h) hFc (fun r_9 u t H1 locs ht hvm er_9 hB hz1 hk1 hS => ?_)
  subst er_9
  obtain ⟨x13_9, x16_9, x17_9, x21_9, x22_9, x24_9, x26_9, y23_9, y27_9, f19_9, f20_9, f25_9, g18_9, g28_9, y90_9, y91_9, y92_9, y93_9, y94_9, y95_9, y96_9, y97_9, y98_9, y99_9, y910_9, y911_9, rR25, hP1⟩ := hB
  rw [ht] at hP1
  have hPZ := dj_keep hPZ (dj_sym (rw_dj (lg' := lgR) (st' := stR) (ai' := aiR) (al' := alR) hdj)) hk1
  clear hPY hz1 hk1 hvm hFc
  subst ht
  have hPY := hP1
  clear hP1
  generalize t.heap = H at hPY hPZ hS ⊢
  have hPY : va_P (dC, dI) vwCl (rw_W o cR kR (rU (rU (rU (rU (rU (rU (rU stR 13 x13_9) 16 x16_9) 17 x17_9) 21 x21_9) 22 x22_9) 24 x24_9) 26 x26_9) (rU (rU lgR 23 y23_9) 27 y27_9) (rU (rU (rU aiR 19 f19_9) 20 f20_9) 25 f25_9) (rU (rU alR 18 g18_9) 28 g28_9)) H := hPY
  have rf16a : 0 ≤ x16_9.toInt := y90_9
  have rf16b : x16_9.toInt ≤ 128 := y91_9
  have rf17a : 0 ≤ x17_9.toInt := y92_9
  have rf17b : x17_9.toInt ≤ 1 := y93_9
  have rf21a : -1 ≤ x21_9.toInt := y94_9
  have rf21b : x21_9.toInt ≤ 127 := y95_9
  have rf22a : 0 ≤ x22_9.toInt := y96_9
  have rf22b : x22_9.toInt ≤ 1000000 := y97_9
  have rf24a : 0 ≤ x24_9.toInt := y98_9
  have rf24b : x24_9.toInt ≤ 1 := y99_9
  have rf26a : 0 ≤ x26_9.toInt := y910_9
  have rf26b : x26_9.toInt ≤ 2000000 := y911_9
  have rR25 : aR f25_9 130 (0) 127 := rR25
  refine lv_lstore (lv' := [(6, .long r_9), (5, .int r), (4, .int i), (3, .ref oa), (2, .ref o), (1, .ref (c 100)), (0, .ref b)]) hx hb dL_law_684 hl (by decide) rfl (fun ls hl => ?_)
  refine lv_goto (tgt := 1103) hx hb dL_law_686 (by decide) ?_
  exact kk e9 st9 lg9 ai9 al9 R9 cap9 num9 f9 (rU (rU (rU (rU (rU (rU (rU stR 13 x13_9) 16 x16_9) 17 x17_9) 21 x21_9) 22 x22_9) 24 x24_9) 26 x26_9) (rU (rU lgR 23 y23_9) 27 y27_9) (rU (rU (rU aiR 19 f19_9) 20 f20_9) 25 f25_9) (rU (rU alR 18 g18_9) 28 g28_9) _ locs ls K1 M1 ⟨hI9, ⟨⟨rf1a, rf1b⟩, ⟨rf2a, rf2b⟩, ⟨rf3a, rf3b⟩, ⟨rf6a, rf6b⟩, ⟨rf7a, rf7b⟩, ⟨rf9a, rf9b⟩, ⟨rf12a, rf12b⟩, ⟨rf15a, rf15b⟩, ⟨rf16a, rf16b⟩, ⟨rf17a, rf17b⟩, ⟨rf21a, rf21b⟩, ⟨rf22a, rf22b⟩, ⟨rf24a, rf24b⟩, ⟨rf26a, rf26b⟩, ⟨rf30a, rf30b⟩, ⟨rf32a, rf32b⟩, ⟨rf37a, rf37b⟩, rR8, rR25, rR31, rR35⟩, hcE, hPZ, hDZ, hPY, rw_D hDY, rw_dj hdj, hS⟩ (lv_sub hl [2, 3, 4, 5, 6] rfl) hcp9 (show (st 13).toInt ≤ (st9 13).toInt by omega) (show (st9 13).toInt ≤ (st 13).toInt + 16 by omega) (by omega) (by omega)
