set_option maxHeartbeats 4000000 in
set_option maxRecDepth 100000 in
theorem v_X4_writeImage (l : Launch) (dC : Nat → ClassId) (dI : Nat → Nat → Nat) (c : Nat → Nat) (kc : Nat → ClassId) (st : Nat → Int32) (lg : Nat → Int64) (ai : Nat → Nat → Int32) (al : Nat → Nat → Int64) (R : va_W) (p0 : Int32) (p1 : Int32) (sz : Nat) (hf9a : 0 ≤ (st 9).toInt) (hf9b : (st 9).toInt ≤ 1) (hq0 : 0 ≤ p0.toInt) (hq1 : p0.toInt ≤ 1) (hq2 : 0 ≤ p1.toInt) (hq3 : p1.toInt ≤ 127) (hR7 : aR (ai 7) 8224 (-128) 127) : Met l yX4_writeImage wsX4_writeImage ({ frames := 2, cells := 0, slots := 0, locals := 46 }) (va_Pc [.ref (c 104), .int p0, .int p1] (fun U => U.heap.size = sz ∧ va_P (dC, dI) vwCl (cw_W c kc st lg ai al R) U.heap ∧ va_K (dC, dI) vwCl (cw_T kc) U ∧ va_D (fun _ => True) (cw_W c kc st lg ai al R))) (va_Qi (fun r (u : Int32) => r = u) (fun u t => ∃ (x9 : Int32) (x10 : Int32) (x11 : Int32) (f7 : Nat → Int32) (f8 : Nat → Int32), (0 ≤ u.toInt) ∧ (u.toInt ≤ 1) ∧ (0 ≤ x9.toInt) ∧ (x9.toInt ≤ 1) ∧ (aR f7 8224 (-128) 127) ∧ va_P (dC, dI) vwCl (cw_W c kc (rU (rU (rU st 9 x9) 10 x10) 11 x11) lg (rU (rU ai 7 f7) 8 f8) al R) t.heap) (va_A (cw_W c kc st lg ai al R) sz)) 0 0 (va_A (cw_W c kc st lg ai al R) sz) := by
  refine Met.ofW (cc := cX4_writeImage) (maxL := 3) (ret := (some .boolean)) (by decide) rfl ?_
  intro p e s m args below meth cM s₁ B hml hv
  obtain ⟨rfl, hsz, hP, hK, hD0⟩ := hv
  have hx := B.exec
  have hb := B.bytes
  have hr := B.returns
  have hts := atoms_spec (ws := wsX4_writeImage) B.pre
  have hown : s.vm.findClass RX4 = some m.cls := findClass_of_methodNamed B.named
  subst hsz
  have hD := hD0.self (sz := s.heap.size)
  generalize hAe : va_A (cw_W c kc st lg ai al R) s.heap.size = A at hD ⊢
  have hA : ∀ q : Nat, s.heap.size ≤ q → A q := fun q h => by rw [← hAe]; exact Or.inr h
  have hS : va_S A s.heap s.heap [] := va_S.rf
  clear hAe hD0
  have hl := lv_entry ([.ref (c 104), .int p0, .int p1]) (n := 3) (Nat.le_of_ble_eq_true rfl)
  rw [lg_entry_eq]
  generalize (lg_sl ([.ref (c 104), .int p0, .int p1]) ++ List.replicate (3 - (lg_sl ([.ref (c 104), .int p0, .int p1])).length) Slot.unset).toArray = ls at hl ⊢
  have hl : lv_has ls 3 [(0, .ref (c 104)), (1, .int p0), (2, .int p1)] := hl
  have z_0 : (0 : Int32).toInt = 0 := by decide
  have z_1 : (1 : Int32).toInt = 1 := by decide
  have z_32 : (32 : Int32).toInt = 32 := by decide
  have z_4096 : (4096 : Int32).toInt = 4096 := by decide
  have hin_X4 : ∀ w ∈ u_ws RX4 TX4 6, w ∈ wsX4_writeImage := by decide +kernel
  have main : ∀ (H : Heap) (locs : List Loc), va_P (dC, dI) vwCl (cw_W c kc st lg ai al R) H → va_S A s.heap H locs → W p l e (headSpec wsX4_writeImage ({ frames := 2, cells := 0, slots := 0, locals := 46 })).room s m ([.ref (c 104), .int p0, .int p1] : List Value).toArray below meth cM H locs 0 0 (MQ below (va_Qi (fun r (u : Int32) => r = u) (fun u t => ∃ (x9 : Int32) (x10 : Int32) (x11 : Int32) (f7 : Nat → Int32) (f8 : Nat → Int32), (0 ≤ u.toInt) ∧ (u.toInt ≤ 1) ∧ (0 ≤ x9.toInt) ∧ (x9.toInt ≤ 1) ∧ (aR f7 8224 (-128) 127) ∧ va_P (dC, dI) vwCl (cw_W c kc (rU (rU (rU st 9 x9) 10 x10) 11 x11) lg (rU (rU ai 7 f7) 8 f8) al R) t.heap) A) ([.ref (c 104), .int p0, .int p1] : List Value).toArray s 0 0 A) (F0 m 0 ls []) := by
    intro H locs hP hS
    refine lv_aload_n hx hb dX4_writeImage_0 rfl (lv_at hl 0 rfl) ?_
    refine va_get (D := (dC, dI)) (ci := 6) (v := .ref (c 102)) (C := RX4) (T := TX4) (N := 6) hx hb hts hin_X4 hown hK hP 4 rfl rfl 0 (by decide) (hts (.fieldLink RX4 9 "BlockLog$Rows" "disk" "LBlockLog$Disk;") (by decide +kernel)) (fun _ h9 => h9) rfl dX4_writeImage_1 ?_
    refine lv_bipush (v := 32) hx hb dX4_writeImage_4 (by decide) ?_
    refine lv_sipush (v := 4096) hx hb dX4_writeImage_6 (by decide) ?_
    refine lv_iload_n hx hb dX4_writeImage_9 rfl (lv_at hl 1 rfl) ?_
    refine lv_imul hx hb dX4_writeImage_10 ?_
    refine lv_topi (fun v_1 ev_1 => ?_)
    have rg1 := iv_rng p0
    have hv_1 : v_1.toInt = 4096 * p0.toInt := by rw [ev_1]; exact (iv_mulc z_4096 (by omega) (by omega)).trans (by omega)
    clear ev_1
    refine lv_iadd hx hb dX4_writeImage_11 ?_
    refine lv_topi (fun v_2 ev_2 => ?_)
    have rg2 := iv_rng v_1
    have hv_2 : v_2.toInt = 32 + v_1.toInt := by rw [ev_2]; exact (iv_add (by omega) (by omega)).trans (by omega)
    clear ev_2
    refine lv_bipush (v := 32) hx hb dX4_writeImage_12 (by decide) ?_
    refine lv_iload_n hx hb dX4_writeImage_14 rfl (lv_at hl 2 rfl) ?_
    refine lv_imul hx hb dX4_writeImage_15 ?_
    refine lv_topi (fun v_3 ev_3 => ?_)
    have rg3 := iv_rng p1
    have hv_3 : v_3.toInt = 32 * p1.toInt := by rw [ev_3]; exact (iv_mulc z_32 (by omega) (by omega)).trans (by omega)
    clear ev_3
    refine lv_iadd hx hb dX4_writeImage_16 ?_
    refine lv_topi (fun v_4 ev_4 => ?_)
    have rg4 := iv_rng v_2
    have rg5 := iv_rng v_3
    have hv_4 : v_4.toInt = v_2.toInt + v_3.toInt := by rw [ev_4]; exact (iv_add (by omega) (by omega)).trans (by omega)
    clear ev_4
    refine lv_aload_n hx hb dX4_writeImage_17 rfl (lv_at hl 0 rfl) ?_
    refine va_get (D := (dC, dI)) (ci := 6) (v := .ref (c 14)) (C := RX4) (T := TX4) (N := 6) hx hb hts hin_X4 hown hK hP 4 rfl rfl 1 (by decide) (hts (.fieldLink RX4 15 "BlockLog$Rows" "image" "[B") (by decide +kernel)) (fun _ h9 => h9) rfl dX4_writeImage_18 ?_
    refine lv_bipush (v := 32) hx hb dX4_writeImage_21 (by decide) ?_
    have hFc := vfree ((cw_D hD : va_D A (cw_W c kc st lg ai al R)) : va_D A (cw_W c kc st lg ai al R)) hS hA
    refine va_calli (va_runV (As := [.int v_4, .ref (c 14), .int (32 : Int32)]) (rest := []) ⟨hx, hb, hml, hown, hts⟩ (v_X1_writeLow l dC dI c kc st lg ai al R v_4 (32 : Int32) _ (show 0 ≤ (st 9).toInt by omega) (show (st 9).toInt ≤ 1 by omega) (by omega) (by omega) (by omega) (by omega) (show aR (ai 7) 8224 (-128) 127 from hR7)) (cwV 3 hts gX4_writeImage_X1_writeLow rfl rfl rfl (by decide +kernel) ⟨Nat.le_of_ble_eq_true rfl, Nat.le_of_ble_eq_true rfl⟩) ⟨fun a U g mk q => by obtain ⟨q0, q1, qP, qK, qD⟩ := q; exact ⟨q0, q1, qP, va_K.moved (u := U) (U := U.calling g mk a) (Vm.Alike.refl U.vm) qK, qD⟩, va_recv hK hP (ci := 3) (q := (RX1, TX1, 7)) rfl (q0 := 2) rfl, fun U hU hW => ⟨rfl, by rw [hU], by rw [hU]; exact hP, va_K.moved hW.alike hK, ((cw_D hD : va_D A (cw_W c kc st lg ai al R))).weaken (fun _ _ _ _ => trivial)⟩⟩ rfl rfl hl.1 rfl (lv_room (Nat.le_of_ble_eq_true rfl)) dX4_writeImage_23 ⟨Nat.le_of_ble_eq_true rfl, Nat.le_of_ble_eq_true rfl⟩) hS (fun q _ h => hFc q h) hFc (fun r_5 ur_5 t H1 locs ht hvm er_5 hB hz1 hk1 hS => ?_)
    subst er_5
    obtain ⟨x9_5, x10_5, x11_5, f7_5, f8_5, k_6, k_7, k_8, k_9, hR7, hP1⟩ := hB
    rw [ht] at hP1
    clear hFc hz1 hk1 hvm hP
    subst ht
    have hP := hP1
    clear hP1
    generalize t.heap = H at hP hS ⊢
    have hP : va_P (dC, dI) vwCl (cw_W c kc (rU (rU (rU st 9 x9_5) 10 x10_5) 11 x11_5) lg (rU (rU ai 7 f7_5) 8 f8_5) al R) H := hP
    have k_8 : 0 ≤ x9_5.toInt := k_8
    have k_9 : x9_5.toInt ≤ 1 := k_9
    have hR7 : aR f7_5 8224 (-128) 127 := hR7
    rcases iv_01 (a := r_5) (by omega) (by omega) with b_10 | b_10
    · skip
      have ib_10 := iv_eq b_10
      rw [b_10]
      exact W.zret hx hb hr rfl (fun t ht hW => ⟨⟨_, _, rfl, rfl, x9_5, x10_5, x11_5, f7_5, f8_5, (by omega), (by omega), (by omega), (by omega), hR7, by rw [ht]; exact hP⟩, hS.F ht⟩) hS.2.2 dX4_writeImage_26
    · skip
      have ib_10 := iv_eq b_10
      rw [b_10]
      exact W.zret hx hb hr rfl (fun t ht hW => ⟨⟨_, _, rfl, rfl, x9_5, x10_5, x11_5, f7_5, f8_5, (by omega), (by omega), (by omega), (by omega), hR7, by rw [ht]; exact hP⟩, hS.F ht⟩) hS.2.2 dX4_writeImage_26
  exact main s.heap [] hP hS

set_option maxHeartbeats 4000000 in
set_option maxRecDepth 100000 in
theorem v_X4_write (l : Launch) (dC : Nat → ClassId) (dI : Nat → Nat → Nat) (c : Nat → Nat) (kc : Nat → ClassId) (st : Nat → Int32) (lg : Nat → Int64) (ai : Nat → Nat → Int32) (al : Nat → Nat → Int64) (R : va_W) (p0 : Int32) (p1 : Int32) (p2 : Int32) (p3 : Int64) (sz : Nat) (hf9a : 0 ≤ (st 9).toInt) (hf9b : (st 9).toInt ≤ 1) (hf15a : 0 ≤ (st 15).toInt) (hf15b : (st 15).toInt ≤ 1) (hf17a : 0 ≤ (st 17).toInt) (hf17b : (st 17).toInt ≤ 128) (hR7 : aR (ai 7) 8224 (-128) 127) : Met l yX4_write wsX4_write ({ frames := 4, cells := 0, slots := 0, locals := 98 }) (va_Pc [.ref (c 104), .int p0, .int p1, .int p2, .long p3] (fun U => U.heap.size = sz ∧ va_P (dC, dI) vwCl (cw_W c kc st lg ai al R) U.heap ∧ va_K (dC, dI) vwCl (cw_T kc) U ∧ va_D (fun _ => True) (cw_W c kc st lg ai al R))) (va_Qi (fun r (u : Int32) => r = u) (fun u t => ∃ (x9 : Int32) (x10 : Int32) (x11 : Int32) (x17 : Int32) (f7 : Nat → Int32) (f8 : Nat → Int32) (f14 : Nat → Int32), (0 ≤ u.toInt) ∧ (u.toInt ≤ 1) ∧ (0 ≤ x9.toInt) ∧ (x9.toInt ≤ 1) ∧ (0 ≤ x17.toInt) ∧ (x17.toInt ≤ 128) ∧ (aR f7 8224 (-128) 127) ∧ va_P (dC, dI) vwCl (cw_W c kc (rU (rU (rU (rU st 9 x9) 10 x10) 11 x11) 17 x17) lg (rU (rU (rU ai 7 f7) 8 f8) 14 f14) al R) t.heap) (va_A (cw_W c kc st lg ai al R) sz)) 0 0 (va_A (cw_W c kc st lg ai al R) sz) := by
  refine Met.ofW (cc := cX4_write) (maxL := 6) (ret := (some .boolean)) (by decide) rfl ?_
  intro p e s m args below meth cM s₁ B hml hv
  obtain ⟨rfl, hsz, hP, hK, hD0⟩ := hv
  have hx := B.exec
  have hb := B.bytes
  have hr := B.returns
  have hts := atoms_spec (ws := wsX4_write) B.pre
  have hown : s.vm.findClass RX4 = some m.cls := findClass_of_methodNamed B.named
  subst hsz
  have hD := hD0.self (sz := s.heap.size)
  generalize hAe : va_A (cw_W c kc st lg ai al R) s.heap.size = A at hD ⊢
  have hA : ∀ q : Nat, s.heap.size ≤ q → A q := fun q h => by rw [← hAe]; exact Or.inr h
  have hS : va_S A s.heap s.heap [] := va_S.rf
  clear hAe hD0
  have hl := lv_entry ([.ref (c 104), .int p0, .int p1, .int p2, .long p3]) (n := 6) (Nat.le_of_ble_eq_true rfl)
  rw [lg_entry_eq]
  generalize (lg_sl ([.ref (c 104), .int p0, .int p1, .int p2, .long p3]) ++ List.replicate (6 - (lg_sl ([.ref (c 104), .int p0, .int p1, .int p2, .long p3])).length) Slot.unset).toArray = ls at hl ⊢
  have hl : lv_has ls 6 [(0, .ref (c 104)), (1, .int p0), (2, .int p1), (3, .int p2), (4, .long p3)] := hl
  have z_0 : (0 : Int32).toInt = 0 := by decide
  have z_1 : (1 : Int32).toInt = 1 := by decide
  have z_128 : (128 : Int32).toInt = 128 := by decide
  have hin_X4 : ∀ w ∈ u_ws RX4 TX4 6, w ∈ wsX4_write := by decide +kernel
  have main : ∀ (H : Heap) (locs : List Loc), va_P (dC, dI) vwCl (cw_W c kc st lg ai al R) H → va_S A s.heap H locs → W p l e (headSpec wsX4_write ({ frames := 4, cells := 0, slots := 0, locals := 98 })).room s m ([.ref (c 104), .int p0, .int p1, .int p2, .long p3] : List Value).toArray below meth cM H locs 0 0 (MQ below (va_Qi (fun r (u : Int32) => r = u) (fun u t => ∃ (x9 : Int32) (x10 : Int32) (x11 : Int32) (x17 : Int32) (f7 : Nat → Int32) (f8 : Nat → Int32) (f14 : Nat → Int32), (0 ≤ u.toInt) ∧ (u.toInt ≤ 1) ∧ (0 ≤ x9.toInt) ∧ (x9.toInt ≤ 1) ∧ (0 ≤ x17.toInt) ∧ (x17.toInt ≤ 128) ∧ (aR f7 8224 (-128) 127) ∧ va_P (dC, dI) vwCl (cw_W c kc (rU (rU (rU (rU st 9 x9) 10 x10) 11 x11) 17 x17) lg (rU (rU (rU ai 7 f7) 8 f8) 14 f14) al R) t.heap) A) ([.ref (c 104), .int p0, .int p1, .int p2, .long p3] : List Value).toArray s 0 0 A) (F0 m 0 ls []) := by
    intro H locs hP hS
    refine lv_aload_n hx hb dX4_write_0 rfl (lv_at hl 0 rfl) ?_
    refine lv_iload_n hx hb dX4_write_1 rfl (lv_at hl 1 rfl) ?_
    refine lv_iload_n hx hb dX4_write_2 rfl (lv_at hl 2 rfl) ?_
    refine lv_iload_n hx hb dX4_write_3 rfl (lv_at hl 3 rfl) ?_
    refine lv_lload hx hb dX4_write_4 (lv_at hl 4 rfl) ?_
    have hFc := vfree ((cw_D hD : va_D A (cw_W c kc st lg ai al R)) : va_D A (cw_W c kc st lg ai al R)) hS hA
    refine va_callv (va_runV (As := [.int p0, .int p1, .int p2, .long p3]) (rest := []) ⟨hx, hb, hml, hown, hts⟩ (v_X4_draw l dC dI c kc st lg ai al R p0 p1 p2 p3 _ ) (cwV 4 hts gX4_write_X4_draw rfl rfl rfl (by decide +kernel) ⟨Nat.le_of_ble_eq_true rfl, Nat.le_of_ble_eq_true rfl⟩) ⟨fun a U g mk q => by obtain ⟨q0, q1, qP, qK, qD⟩ := q; exact ⟨q0, q1, qP, va_K.moved (u := U) (U := U.calling g mk a) (Vm.Alike.refl U.vm) qK, qD⟩, va_recv hK hP (ci := 6) (q := (RX4, TX4, 6)) rfl (q0 := 4) rfl, fun U hU hW => ⟨rfl, by rw [hU], by rw [hU]; exact hP, va_K.moved hW.alike hK, ((cw_D hD : va_D A (cw_W c kc st lg ai al R))).weaken (fun _ _ _ _ => trivial)⟩⟩ rfl rfl hl.1 rfl (lv_room (Nat.le_of_ble_eq_true rfl)) dX4_write_6 ⟨Nat.le_of_ble_eq_true rfl, Nat.le_of_ble_eq_true rfl⟩) hS (fun q _ h => hFc q h) hFc (fun ur_1 t H1 locs ht hvm er_1 hB hz1 hk1 hS => ?_)
    obtain ⟨f14_1, hP1⟩ := hB
    rw [ht] at hP1
    clear hFc hz1 hk1 hvm hP
    subst ht
    have hP := hP1
    clear hP1
    generalize t.heap = H at hP hS ⊢
    have hP : va_P (dC, dI) vwCl (cw_W c kc st lg (rU ai 14 f14_1) al R) H := hP
    refine lv_aload_n hx hb dX4_write_9 rfl (lv_at hl 0 rfl) ?_
    refine va_get (D := (dC, dI)) (ci := 6) (v := .int (st 17)) (C := RX4) (T := TX4) (N := 6) hx hb hts hin_X4 hown hK hP 4 rfl rfl 4 (by decide) (hts (.fieldLink RX4 26 "BlockLog$Rows" "count" "I") (by decide +kernel)) (fun _ h9 => h9) rfl dX4_write_10 ?_
    refine lv_sipush (v := 128) hx hb dX4_write_13 (by decide) ?_
    refine lv_icmp_ge (tgt := 34) hx hb dX4_write_16 (by decide) (fun c_2 => ?_) (fun c_2 => ?_)
    · skip
      have ic_2 := iv_le c_2
      refine lv_iconst (v := 0) hx hb dX4_write_34 (by decide) ?_
      exact W.zret hx hb hr rfl (fun t ht hW => ⟨⟨_, _, rfl, rfl, st 9, st 10, st 11, st 17, ai 7, ai 8, f14_1, (by omega), (by omega), (by omega), (by omega), (by omega), (by omega), hR7, by rw [ht]; exact hP⟩, hS.F ht⟩) hS.2.2 dX4_write_35
    · skip
      have ic_2 := iv_nle c_2
      refine lv_aload_n hx hb dX4_write_19 rfl (lv_at hl 0 rfl) ?_
      refine lv_aload_n hx hb dX4_write_20 rfl (lv_at hl 0 rfl) ?_
      refine va_get (D := (dC, dI)) (ci := 6) (v := .int (st 15)) (C := RX4) (T := TX4) (N := 6) hx hb hts hin_X4 hown hK hP 4 rfl rfl 2 (by decide) (hts (.fieldLink RX4 19 "BlockLog$Rows" "area" "I") (by decide +kernel)) (fun _ h9 => h9) rfl dX4_write_21 ?_
      refine lv_aload_n hx hb dX4_write_24 rfl (lv_at hl 0 rfl) ?_
      refine va_get (D := (dC, dI)) (ci := 6) (v := .int (st 17)) (C := RX4) (T := TX4) (N := 6) hx hb hts hin_X4 hown hK hP 4 rfl rfl 4 (by decide) (hts (.fieldLink RX4 26 "BlockLog$Rows" "count" "I") (by decide +kernel)) (fun _ h9 => h9) rfl dX4_write_25 ?_
      have hFc := vfree ((cw_D hD : va_D A (cw_W c kc st lg (rU ai 14 f14_1) al R)) : va_D A (cw_W c kc st lg (rU ai 14 f14_1) al R)) hS hA
      refine va_calli (va_runV (As := [.int (st 15), .int (st 17)]) (rest := []) ⟨hx, hb, hml, hown, hts⟩ (v_X4_writeImage l dC dI c kc st lg (rU ai 14 f14_1) al R (st 15) (st 17) _ (show 0 ≤ (st 9).toInt by omega) (show (st 9).toInt ≤ 1 by omega) (by omega) (by omega) (by omega) (by omega) (show aR (ai 7) 8224 (-128) 127 from hR7)) (cwV 2 hts gX4_write_X4_writeImage rfl rfl rfl (by decide +kernel) ⟨Nat.le_of_ble_eq_true rfl, Nat.le_of_ble_eq_true rfl⟩) ⟨fun a U g mk q => by obtain ⟨q0, q1, qP, qK, qD⟩ := q; exact ⟨q0, q1, qP, va_K.moved (u := U) (U := U.calling g mk a) (Vm.Alike.refl U.vm) qK, qD⟩, va_recv hK hP (ci := 6) (q := (RX4, TX4, 6)) rfl (q0 := 4) rfl, fun U hU hW => ⟨rfl, by rw [hU], by rw [hU]; exact hP, va_K.moved hW.alike hK, ((cw_D hD : va_D A (cw_W c kc st lg (rU ai 14 f14_1) al R))).weaken (fun _ _ _ _ => trivial)⟩⟩ rfl rfl hl.1 rfl (lv_room (Nat.le_of_ble_eq_true rfl)) dX4_write_28 ⟨Nat.le_of_ble_eq_true rfl, Nat.le_of_ble_eq_true rfl⟩) hS (fun q _ h => hFc q h) hFc (fun r_3 ur_3 t H1 locs ht hvm er_3 hB hz1 hk1 hS => ?_)
      subst er_3
      obtain ⟨x9_3, x10_3, x11_3, f7_3, f8_3, k_4, k_5, k_6, k_7, hR7, hP1⟩ := hB
      rw [ht] at hP1
      clear hFc hz1 hk1 hvm hP
      subst ht
      have hP := hP1
      clear hP1
      generalize t.heap = H at hP hS ⊢
      have hP : va_P (dC, dI) vwCl (cw_W c kc (rU (rU (rU st 9 x9_3) 10 x10_3) 11 x11_3) lg (rU (rU (rU ai 7 f7_3) 8 f8_3) 14 f14_1) al R) H := hP
      have k_6 : 0 ≤ x9_3.toInt := k_6
      have k_7 : x9_3.toInt ≤ 1 := k_7
      have hR7 : aR f7_3 8224 (-128) 127 := hR7
      rcases iv_01 (a := r_3) (by omega) (by omega) with b_8 | b_8
      · skip
        have ib_8 := iv_eq b_8
        rw [b_8]
        refine lv_if_ne (tgt := 36) hx hb dX4_write_31 (by decide) (fun c_9 => ?_) (fun c_9 => ?_)
        · skip
          have ic_9 := iv_ne c_9
          exfalso
          omega
        · skip
          have ic_9 := iv_eq c_9
          refine lv_iconst (v := 0) hx hb dX4_write_34 (by decide) ?_
          exact W.zret hx hb hr rfl (fun t ht hW => ⟨⟨_, _, rfl, rfl, x9_3, x10_3, x11_3, st 17, f7_3, f8_3, f14_1, (by omega), (by omega), (by omega), (by omega), (by omega), (by omega), hR7, by rw [ht]; exact hP⟩, hS.F ht⟩) hS.2.2 dX4_write_35
      · skip
        have ib_8 := iv_eq b_8
        rw [b_8]
        refine lv_if_ne (tgt := 36) hx hb dX4_write_31 (by decide) (fun c_10 => ?_) (fun c_10 => ?_)
        · skip
          have ic_10 := iv_ne c_10
          refine lv_aload_n hx hb dX4_write_36 rfl (lv_at hl 0 rfl) ?_
          refine lv_dup hx hb dX4_write_37 rfl ?_
          refine va_get (D := (dC, dI)) (ci := 6) (v := .int (st 17)) (C := RX4) (T := TX4) (N := 6) hx hb hts hin_X4 hown hK hP 4 rfl rfl 4 (by decide) (hts (.fieldLink RX4 26 "BlockLog$Rows" "count" "I") (by decide +kernel)) (fun _ h9 => h9) rfl dX4_write_38 ?_
          refine lv_iconst (v := 1) hx hb dX4_write_41 (by decide) ?_
          refine lv_iadd hx hb dX4_write_42 ?_
          refine lv_topi (fun v_11 ev_11 => ?_)
          have rg1 := iv_rng (st 17)
          have hv_11 : v_11.toInt = (st 17).toInt + 1 := by rw [ev_11]; exact (iv_add (by omega) (by omega)).trans (by omega)
          clear ev_11
          refine va_put (D := (dC, dI)) (ci := 6) (v := .int v_11) (ty := .int) (C := RX4) (T := TX4) (N := 6) hx hb hts hin_X4 tyX4 tyX4_ok nmX4 hown hK hP (cw_D hD) hS 4 rfl rfl 4 (by decide) (hts (.fieldLink RX4 26 "BlockLog$Rows" "count" "I") (by decide +kernel)) (fun _ h9 => h9) rfl (by decide +kernel) rfl rfl (Nat.le_of_ble_eq_true rfl) dX4_write_43 (fun H locs hP _ hS => ?_)
          have hP : va_P (dC, dI) vwCl (cw_W c kc (rU (rU (rU (rU st 9 x9_3) 10 x10_3) 11 x11_3) 17 v_11) lg (rU (rU (rU ai 7 f7_3) 8 f8_3) 14 f14_1) al R) H := hP
          refine lv_iconst (v := 1) hx hb dX4_write_46 (by decide) ?_
          exact W.zret hx hb hr rfl (fun t ht hW => ⟨⟨_, _, rfl, rfl, x9_3, x10_3, x11_3, v_11, f7_3, f8_3, f14_1, (by omega), (by omega), (by omega), (by omega), (by omega), (by omega), hR7, by rw [ht]; exact hP⟩, hS.F ht⟩) hS.2.2 dX4_write_47
        · skip
          have ic_10 := iv_eq c_10
          exfalso
          omega
  exact main s.heap [] hP hS

set_option maxHeartbeats 4000000 in
set_option maxRecDepth 100000 in
theorem v_X4_isHead (l : Launch) (dC : Nat → ClassId) (dI : Nat → Nat → Nat) (c : Nat → Nat) (kc : Nat → ClassId) (st : Nat → Int32) (lg : Nat → Int64) (ai : Nat → Nat → Int32) (al : Nat → Nat → Int64) (R : va_W) (p0 : Int32) (hq0 : 0 ≤ p0.toInt) (hq1 : p0.toInt ≤ 1) : Met l yX4_isHead wsX4_isHead ({ frames := 2, cells := 0, slots := 0, locals := 50 }) (va_Pc [.ref (c 104), .int p0] (fun U => va_P (dC, dI) vwCl (cw_W c kc st lg ai al R) U.heap ∧ va_K (dC, dI) vwCl (cw_T kc) U ∧ gx_W U)) (vp_Si (fun r => (0 ≤ r.toInt) ∧ (r.toInt ≤ 1))) 0 0 (fun _ => False) := by
  refine Met.ofW (cc := cX4_isHead) (maxL := 5) (ret := (some .boolean)) (by decide) rfl ?_
  intro p e s m args below meth cM s₁ B hml hv
  obtain ⟨rfl, hP, hK, hG⟩ := hv
  have hx := B.exec
  have hb := B.bytes
  have hr := B.returns
  have hts := atoms_spec (ws := wsX4_isHead) B.pre
  have hown : s.vm.findClass RX4 = some m.cls := findClass_of_methodNamed B.named
  have hGW := hG
  have hl := lv_entry ([.ref (c 104), .int p0]) (n := 5) (Nat.le_of_ble_eq_true rfl)
  rw [lg_entry_eq]
  generalize (lg_sl ([.ref (c 104), .int p0]) ++ List.replicate (5 - (lg_sl ([.ref (c 104), .int p0])).length) Slot.unset).toArray = ls at hl ⊢
  have hl : lv_has ls 5 [(0, .ref (c 104)), (1, .int p0)] := hl
  have z_0 : (0 : Int32).toInt = 0 := by decide
  have z_1 : (1 : Int32).toInt = 1 := by decide
  have z_4 : (4 : Int32).toInt = 4 := by decide
  have z_8 : (8 : Int32).toInt = 8 := by decide
  have z_16 : (16 : Int32).toInt = 16 := by decide
  have z_165 : (165 : Int32).toInt = 165 := by decide
  have hin_X1 : ∀ w ∈ u_ws RX1 TX1 7, w ∈ wsX4_isHead := by decide +kernel
  have hin_X4 : ∀ w ∈ u_ws RX4 TX4 6, w ∈ wsX4_isHead := by decide +kernel
  refine lv_bipush (v := 16) hx hb dX4_isHead_0 (by decide) ?_
  refine lv_iload_n hx hb dX4_isHead_2 rfl (lv_at hl 1 rfl) ?_
  refine lv_imul hx hb dX4_isHead_3 ?_
  refine lv_topi (fun v_1 ev_1 => ?_)
  have rg1 := iv_rng p0
  have hv_1 : v_1.toInt = 16 * p0.toInt := by rw [ev_1]; exact (iv_mulc z_16 (by omega) (by omega)).trans (by omega)
  clear ev_1
  refine lv_istore_n (lv' := [(2, .int v_1), (0, .ref (c 104)), (1, .int p0)]) hx hb dX4_isHead_4 rfl hl (by decide) rfl (fun ls hl => ?_)
  refine lv_aload_n hx hb dX4_isHead_5 rfl (lv_at hl 1 rfl) ?_
  refine va_get (D := (dC, dI)) (ci := 6) (v := .ref (c 102)) (C := RX4) (T := TX4) (N := 6) hx hb hts hin_X4 hown hK hP 4 rfl rfl 0 (by decide) (hts (.fieldLink RX4 9 "BlockLog$Rows" "disk" "LBlockLog$Disk;") (by decide +kernel)) (fun _ h9 => h9) rfl dX4_isHead_6 ?_
  refine va_getN (D := (dC, dI)) (ci := 3) (v := .ref (c 7)) (C := RX1) (T := TX1) (N := 7) hx hb hts hin_X1 hown hK hP 2 rfl rfl 1 (by decide) (va_Nw.use rfl (hGW.1 ("BlockLog$Rows", 36, "BlockLog$Disk", "low", "[B", "BlockLog") (by decide +kernel))) (fun _ h9 => h9) rfl dX4_isHead_9 ?_
  refine lv_iload_n hx hb dX4_isHead_12 rfl (lv_at hl 0 rfl) ?_
  refine lv_bipush (v := 8) hx hb dX4_isHead_13 (by decide) ?_
  refine lv_iadd hx hb dX4_isHead_15 ?_
  refine lv_topi (fun v_2 ev_2 => ?_)
  have rg2 := iv_rng v_1
  have hv_2 : v_2.toInt = v_1.toInt + 8 := by rw [ev_2]; exact (iv_add (by omega) (by omega)).trans (by omega)
  clear ev_2
  refine vp_callSl (va_Run.run (va_runS (As := [.ref (c 7), .int v_2]) (rest := []) ⟨hx, hb, hml, hown, hts⟩ (v_X0_longAt l dC dI (cw_W c kc st lg ai al R) (cw_T kc) (c 7) 8224 (kc 7) (ai 7) 12 4 v_2 rfl rfl (by omega) (by omega) (by omega)) (va_cwS 2 hts gX4_isHead_X0_longAt rfl rfl rfl (by decide +kernel) ⟨Nat.le_of_ble_eq_true rfl, Nat.le_of_ble_eq_true rfl⟩) ⟨fun a U g mk q => by obtain ⟨q0, qP, qK⟩ := q; exact ⟨q0, qP, va_K.moved (u := U) (U := U.calling g mk a) (Vm.Alike.refl U.vm) qK⟩, fun U hU hW => ⟨rfl, by rw [hU]; exact hP, va_K.moved hW.alike hK⟩⟩ rfl rfl hl.1 rfl (lv_room (Nat.le_of_ble_eq_true rfl)) dX4_isHead_16 ⟨Nat.le_of_ble_eq_true rfl, Nat.le_of_ble_eq_true rfl⟩)) (fun r_3 er_3 => ?_)
  refine lv_lstore_n (lv' := [(3, .long r_3), (2, .int v_1), (0, .ref (c 104)), (1, .int p0)]) hx hb dX4_isHead_19 rfl hl (by decide) rfl (fun ls hl => ?_)
  refine lv_aload_n hx hb dX4_isHead_20 rfl (lv_at hl 2 rfl) ?_
  refine va_get (D := (dC, dI)) (ci := 6) (v := .ref (c 102)) (C := RX4) (T := TX4) (N := 6) hx hb hts hin_X4 hown hK hP 4 rfl rfl 0 (by decide) (hts (.fieldLink RX4 9 "BlockLog$Rows" "disk" "LBlockLog$Disk;") (by decide +kernel)) (fun _ h9 => h9) rfl dX4_isHead_21 ?_
  refine va_getN (D := (dC, dI)) (ci := 3) (v := .ref (c 7)) (C := RX1) (T := TX1) (N := 7) hx hb hts hin_X1 hown hK hP 2 rfl rfl 1 (by decide) (va_Nw.use rfl (hGW.1 ("BlockLog$Rows", 36, "BlockLog$Disk", "low", "[B", "BlockLog") (by decide +kernel))) (fun _ h9 => h9) rfl dX4_isHead_24 ?_
  refine lv_iload_n hx hb dX4_isHead_27 rfl (lv_at hl 1 rfl) ?_
  refine lv_iconst (v := 4) hx hb dX4_isHead_28 (by decide) ?_
  refine lv_iadd hx hb dX4_isHead_29 ?_
  refine lv_topi (fun v_4 ev_4 => ?_)
  have hv_4 : v_4.toInt = v_1.toInt + 4 := by rw [ev_4]; exact (iv_add (by omega) (by omega)).trans (by omega)
  clear ev_4
  refine vp_callSi (va_Run.run (va_runS (As := [.ref (c 7), .int v_4]) (rest := []) ⟨hx, hb, hml, hown, hts⟩ (v_X0_intAt l dC dI (cw_W c kc st lg ai al R) (cw_T kc) (c 7) 8224 (kc 7) (ai 7) 12 4 v_4 rfl rfl (by omega) (by omega) (by omega)) (va_cwS 2 hts gX4_isHead_X0_intAt rfl rfl rfl (by decide +kernel) ⟨Nat.le_of_ble_eq_true rfl, Nat.le_of_ble_eq_true rfl⟩) ⟨fun a U g mk q => by obtain ⟨q0, qP, qK⟩ := q; exact ⟨q0, qP, va_K.moved (u := U) (U := U.calling g mk a) (Vm.Alike.refl U.vm) qK⟩, fun U hU hW => ⟨rfl, by rw [hU]; exact hP, va_K.moved hW.alike hK⟩⟩ rfl rfl hl.1 rfl (lv_room (Nat.le_of_ble_eq_true rfl)) dX4_isHead_30 ⟨Nat.le_of_ble_eq_true rfl, Nat.le_of_ble_eq_true rfl⟩)) (fun r_5 er_5 => ?_)
  have hia := er_5
  have hia : r_5 = iR (ai 7) v_4 4 := hia
  refine lv_sipush (v := 165) hx hb dX4_isHead_33 (by decide) ?_
  refine lv_icmp_ne (tgt := 68) hx hb dX4_isHead_36 (by decide) (fun c_6 => ?_) (fun c_6 => ?_)
  · skip
    have ic_6 := iv_ne c_6
    refine lv_iconst (v := 0) hx hb dX4_isHead_68 (by decide) ?_
    exact W.zret hx hb hr rfl (fun t ht hW => ⟨_, rfl, ⟨(by omega), (by omega)⟩, ht⟩) (fun q h => by cases h) dX4_isHead_69
  · skip
    have ic_6 := iv_eq c_6
    refine lv_lload_n hx hb dX4_isHead_39 rfl (lv_at hl 0 rfl) ?_
    refine lv_lconst (v := 0) hx hb dX4_isHead_40 (by decide) ?_
    refine W.lcmp hx hb dX4_isHead_41 ?_
    refine lv_topi (fun v_7 ev_7 => ?_)
    clear ev_7
    refine lv_if_eq (tgt := 68) hx hb dX4_isHead_42 (by decide) (fun c_8 => ?_) (fun c_8 => ?_)
    · skip
      have ic_8 := iv_eq c_8
      refine lv_iconst (v := 0) hx hb dX4_isHead_68 (by decide) ?_
      exact W.zret hx hb hr rfl (fun t ht hW => ⟨_, rfl, ⟨(by omega), (by omega)⟩, ht⟩) (fun q h => by cases h) dX4_isHead_69
    · skip
      have ic_8 := iv_ne c_8
      refine lv_lload_n hx hb dX4_isHead_45 rfl (lv_at hl 0 rfl) ?_
      refine lv_aload_n hx hb dX4_isHead_46 rfl (lv_at hl 2 rfl) ?_
      refine va_get (D := (dC, dI)) (ci := 6) (v := .ref (c 102)) (C := RX4) (T := TX4) (N := 6) hx hb hts hin_X4 hown hK hP 4 rfl rfl 0 (by decide) (hts (.fieldLink RX4 9 "BlockLog$Rows" "disk" "LBlockLog$Disk;") (by decide +kernel)) (fun _ h9 => h9) rfl dX4_isHead_47 ?_
      refine va_getN (D := (dC, dI)) (ci := 3) (v := .ref (c 7)) (C := RX1) (T := TX1) (N := 7) hx hb hts hin_X1 hown hK hP 2 rfl rfl 1 (by decide) (va_Nw.use rfl (hGW.1 ("BlockLog$Rows", 36, "BlockLog$Disk", "low", "[B", "BlockLog") (by decide +kernel))) (fun _ h9 => h9) rfl dX4_isHead_50 ?_
      refine lv_iload_n hx hb dX4_isHead_53 rfl (lv_at hl 1 rfl) ?_
      refine lv_bipush (v := 8) hx hb dX4_isHead_54 (by decide) ?_
      refine lv_iconst (v := 1) hx hb dX4_isHead_56 (by decide) ?_
      refine vp_callSl (va_Run.run (va_runS (As := [.ref (c 7), .int v_1, .int (8 : Int32), .int (1 : Int32)]) (rest := [.long r_3]) ⟨hx, hb, hml, hown, hts⟩ (v_X0_sum l dC dI (cw_W c kc st lg ai al R) (cw_T kc) (c 7) 8224 (kc 7) (ai 7) 12 4 v_1 (8 : Int32) (1 : Int32) rfl rfl (by omega) (by omega) (by omega) (by omega)) (va_cwS 4 hts gX4_isHead_X0_sum rfl rfl rfl (by decide +kernel) ⟨Nat.le_of_ble_eq_true rfl, Nat.le_of_ble_eq_true rfl⟩) ⟨fun a U g mk q => by obtain ⟨q0, qP, qK⟩ := q; exact ⟨q0, qP, va_K.moved (u := U) (U := U.calling g mk a) (Vm.Alike.refl U.vm) qK⟩, fun U hU hW => ⟨rfl, by rw [hU]; exact hP, va_K.moved hW.alike hK⟩⟩ rfl rfl hl.1 rfl (lv_room (Nat.le_of_ble_eq_true rfl)) dX4_isHead_57 ⟨Nat.le_of_ble_eq_true rfl, Nat.le_of_ble_eq_true rfl⟩)) (fun r_9 er_9 => ?_)
      refine W.lcmp hx hb dX4_isHead_60 ?_
      refine lv_topi (fun v_10 ev_10 => ?_)
      clear ev_10
      refine lv_if_ne (tgt := 68) hx hb dX4_isHead_61 (by decide) (fun c_11 => ?_) (fun c_11 => ?_)
      · skip
        have ic_11 := iv_ne c_11
        refine lv_iconst (v := 0) hx hb dX4_isHead_68 (by decide) ?_
        exact W.zret hx hb hr rfl (fun t ht hW => ⟨_, rfl, ⟨(by omega), (by omega)⟩, ht⟩) (fun q h => by cases h) dX4_isHead_69
      · skip
        have ic_11 := iv_eq c_11
        refine lv_iconst (v := 1) hx hb dX4_isHead_64 (by decide) ?_
        refine lv_goto (tgt := 69) hx hb dX4_isHead_65 (by decide) ?_
        exact W.zret hx hb hr rfl (fun t ht hW => ⟨_, rfl, ⟨(by omega), (by omega)⟩, ht⟩) (fun q h => by cases h) dX4_isHead_69

set_option maxHeartbeats 4000000 in
set_option maxRecDepth 100000 in
theorem v_X4_generationOf (l : Launch) (dC : Nat → ClassId) (dI : Nat → Nat → Nat) (c : Nat → Nat) (kc : Nat → ClassId) (st : Nat → Int32) (lg : Nat → Int64) (ai : Nat → Nat → Int32) (al : Nat → Nat → Int64) (R : va_W) (p0 : Int32) (hq0 : 0 ≤ p0.toInt) (hq1 : p0.toInt ≤ 1) : Met l yX4_generationOf wsX4_generationOf ({ frames := 1, cells := 0, slots := 0, locals := 23 }) (va_Pc [.ref (c 104), .int p0] (fun U => va_P (dC, dI) vwCl (cw_W c kc st lg ai al R) U.heap ∧ va_K (dC, dI) vwCl (cw_T kc) U ∧ gx_W U)) (vp_Sl (fun r => True)) 0 0 (fun _ => False) := by
  refine Met.ofW (cc := cX4_generationOf) (maxL := 2) (ret := (some .long)) (by decide) rfl ?_
  intro p e s m args below meth cM s₁ B hml hv
  obtain ⟨rfl, hP, hK, hG⟩ := hv
  have hx := B.exec
  have hb := B.bytes
  have hr := B.returns
  have hts := atoms_spec (ws := wsX4_generationOf) B.pre
  have hown : s.vm.findClass RX4 = some m.cls := findClass_of_methodNamed B.named
  have hGW := hG
  have hl := lv_entry ([.ref (c 104), .int p0]) (n := 2) (Nat.le_of_ble_eq_true rfl)
  rw [lg_entry_eq]
  generalize (lg_sl ([.ref (c 104), .int p0]) ++ List.replicate (2 - (lg_sl ([.ref (c 104), .int p0])).length) Slot.unset).toArray = ls at hl ⊢
  have hl : lv_has ls 2 [(0, .ref (c 104)), (1, .int p0)] := hl
  have z_16 : (16 : Int32).toInt = 16 := by decide
  have hin_X1 : ∀ w ∈ u_ws RX1 TX1 7, w ∈ wsX4_generationOf := by decide +kernel
  have hin_X4 : ∀ w ∈ u_ws RX4 TX4 6, w ∈ wsX4_generationOf := by decide +kernel
  refine lv_aload_n hx hb dX4_generationOf_0 rfl (lv_at hl 0 rfl) ?_
  refine va_get (D := (dC, dI)) (ci := 6) (v := .ref (c 102)) (C := RX4) (T := TX4) (N := 6) hx hb hts hin_X4 hown hK hP 4 rfl rfl 0 (by decide) (hts (.fieldLink RX4 9 "BlockLog$Rows" "disk" "LBlockLog$Disk;") (by decide +kernel)) (fun _ h9 => h9) rfl dX4_generationOf_1 ?_
  refine va_getN (D := (dC, dI)) (ci := 3) (v := .ref (c 7)) (C := RX1) (T := TX1) (N := 7) hx hb hts hin_X1 hown hK hP 2 rfl rfl 1 (by decide) (va_Nw.use rfl (hGW.1 ("BlockLog$Rows", 36, "BlockLog$Disk", "low", "[B", "BlockLog") (by decide +kernel))) (fun _ h9 => h9) rfl dX4_generationOf_4 ?_
  refine lv_bipush (v := 16) hx hb dX4_generationOf_7 (by decide) ?_
  refine lv_iload_n hx hb dX4_generationOf_9 rfl (lv_at hl 1 rfl) ?_
  refine lv_imul hx hb dX4_generationOf_10 ?_
  refine lv_topi (fun v_1 ev_1 => ?_)
  have rg1 := iv_rng p0
  have hv_1 : v_1.toInt = 16 * p0.toInt := by rw [ev_1]; exact (iv_mulc z_16 (by omega) (by omega)).trans (by omega)
  clear ev_1
  refine vp_callSi (va_Run.run (va_runS (As := [.ref (c 7), .int v_1]) (rest := []) ⟨hx, hb, hml, hown, hts⟩ (v_X0_intAt l dC dI (cw_W c kc st lg ai al R) (cw_T kc) (c 7) 8224 (kc 7) (ai 7) 12 4 v_1 rfl rfl (by omega) (by omega) (by omega)) (va_cwS 2 hts gX4_generationOf_X0_intAt rfl rfl rfl (by decide +kernel) ⟨Nat.le_of_ble_eq_true rfl, Nat.le_of_ble_eq_true rfl⟩) ⟨fun a U g mk q => by obtain ⟨q0, qP, qK⟩ := q; exact ⟨q0, qP, va_K.moved (u := U) (U := U.calling g mk a) (Vm.Alike.refl U.vm) qK⟩, fun U hU hW => ⟨rfl, by rw [hU]; exact hP, va_K.moved hW.alike hK⟩⟩ rfl rfl hl.1 rfl (lv_room (Nat.le_of_ble_eq_true rfl)) dX4_generationOf_11 ⟨Nat.le_of_ble_eq_true rfl, Nat.le_of_ble_eq_true rfl⟩)) (fun r_2 er_2 => ?_)
  have hia := er_2
  have hia : r_2 = iR (ai 7) v_1 4 := hia
  refine lv_i2l hx hb dX4_generationOf_14 rfl ?_
  refine lv_topl (fun w_3 ew_3 => ?_)
  clear ew_3
  refine lv_ldc2 hx hb hown (hts (.constantLong RX4 92 (4294967295)) (by decide +kernel)) dX4_generationOf_15 ?_
  refine lv_land hx hb dX4_generationOf_18 ?_
  refine lv_topl (fun w_4 ew_4 => ?_)
  clear ew_4
  exact W.lret hx hb hr (fun t ht hW => ⟨_, rfl, trivial, ht⟩) (fun q h => by cases h) dX4_generationOf_19

set_option maxHeartbeats 4000000 in
set_option maxRecDepth 100000 in
theorem v_X4_choose (l : Launch) (dC : Nat → ClassId) (dI : Nat → Nat → Nat) (c : Nat → Nat) (kc : Nat → ClassId) (st : Nat → Int32) (lg : Nat → Int64) (ai : Nat → Nat → Int32) (al : Nat → Nat → Int64) (R : va_W)  (sz : Nat) (hf15a : 0 ≤ (st 15).toInt) (hf15b : (st 15).toInt ≤ 1) : Met l yX4_choose wsX4_choose ({ frames := 3, cells := 0, slots := 0, locals := 74 }) (va_Pc [.ref (c 104)] (fun U => U.heap.size = sz ∧ va_P (dC, dI) vwCl (cw_W c kc st lg ai al R) U.heap ∧ va_K (dC, dI) vwCl (cw_T kc) U ∧ va_D (fun _ => True) (cw_W c kc st lg ai al R) ∧ gx_E (va_A (cw_W c kc st lg ai al R) sz) U)) (va_Qi (fun r (u : Int32) => r = u) (fun u t => ∃ (x15 : Int32) (x16 : Int32), (0 ≤ u.toInt) ∧ (u.toInt ≤ 1) ∧ (0 ≤ x15.toInt) ∧ (x15.toInt ≤ 1) ∧ va_P (dC, dI) vwCl (cw_W c kc (rU (rU st 15 x15) 16 x16) lg ai al R) t.heap) (va_A (cw_W c kc st lg ai al R) sz)) 0 0 (va_A (cw_W c kc st lg ai al R) sz) := by
  refine Met.ofW (cc := cX4_choose) (maxL := 3) (ret := (some .boolean)) (by decide) rfl ?_
  intro p e s m args below meth cM s₁ B hml hv
  obtain ⟨rfl, hsz, hP, hK, hD0, hG⟩ := hv
  have hx := B.exec
  have hb := B.bytes
  have hr := B.returns
  have hts := atoms_spec (ws := wsX4_choose) B.pre
  have hown : s.vm.findClass RX4 = some m.cls := findClass_of_methodNamed B.named
  have hGW := hG.1
  subst hsz
  have hD := hD0.self (sz := s.heap.size)
  generalize hAe : va_A (cw_W c kc st lg ai al R) s.heap.size = A at hD hG ⊢
  have hA : ∀ q : Nat, s.heap.size ≤ q → A q := fun q h => by rw [← hAe]; exact Or.inr h
  have hS : va_S A s.heap s.heap [] := va_S.rf
  clear hAe hD0
  have hl := lv_entry ([.ref (c 104)]) (n := 3) (Nat.le_of_ble_eq_true rfl)
  rw [lg_entry_eq]
  generalize (lg_sl ([.ref (c 104)]) ++ List.replicate (3 - (lg_sl ([.ref (c 104)])).length) Slot.unset).toArray = ls at hl ⊢
  have hl : lv_has ls 3 [(0, .ref (c 104))] := hl
  have z_0 : (0 : Int32).toInt = 0 := by decide
  have z_1 : (1 : Int32).toInt = 1 := by decide
  have hin_X4 : ∀ w ∈ u_ws RX4 TX4 6, w ∈ wsX4_choose := by decide +kernel
  have main : ∀ (H : Heap) (locs : List Loc), va_P (dC, dI) vwCl (cw_W c kc st lg ai al R) H → va_S A s.heap H locs → W p l e (headSpec wsX4_choose ({ frames := 3, cells := 0, slots := 0, locals := 74 })).room s m ([.ref (c 104)] : List Value).toArray below meth cM H locs 0 0 (MQ below (va_Qi (fun r (u : Int32) => r = u) (fun u t => ∃ (x15 : Int32) (x16 : Int32), (0 ≤ u.toInt) ∧ (u.toInt ≤ 1) ∧ (0 ≤ x15.toInt) ∧ (x15.toInt ≤ 1) ∧ va_P (dC, dI) vwCl (cw_W c kc (rU (rU st 15 x15) 16 x16) lg ai al R) t.heap) A) ([.ref (c 104)] : List Value).toArray s 0 0 A) (F0 m 0 ls []) := by
    intro H locs hP hS
    refine lv_aload_n hx hb dX4_choose_0 rfl (lv_at hl 0 rfl) ?_
    refine lv_iconst (v := 0) hx hb dX4_choose_1 (by decide) ?_
    refine vp_callSi (va_Run.run (va_runV (As := [.int (0 : Int32)]) (rest := []) ⟨hx, hb, hml, hown, hts⟩ (v_X4_isHead l dC dI c kc st lg ai al R (0 : Int32) (by omega) (by omega)) (cwV 1 hts gX4_choose_X4_isHead rfl rfl rfl (by decide +kernel) ⟨Nat.le_of_ble_eq_true rfl, Nat.le_of_ble_eq_true rfl⟩) ⟨fun a U g mk q => by obtain ⟨q0, qP, qK, qG⟩ := q; exact ⟨q0, qP, va_K.moved (u := U) (U := U.calling g mk a) (Vm.Alike.refl U.vm) qK, qG.same rfl⟩, va_recv hK hP (ci := 6) (q := (RX4, TX4, 6)) rfl (q0 := 4) rfl, fun U hU hW => ⟨rfl, by rw [hU]; exact hP, va_K.moved hW.alike hK, hGW.warm hW⟩⟩ rfl rfl hl.1 rfl (lv_room (Nat.le_of_ble_eq_true rfl)) dX4_choose_2 ⟨Nat.le_of_ble_eq_true rfl, Nat.le_of_ble_eq_true rfl⟩)) (fun r_1 er_1 => ?_)
    obtain ⟨k_2, k_3⟩ := er_1
    rcases iv_01 (a := r_1) (by omega) (by omega) with b_4 | b_4
    · skip
      have ib_4 := iv_eq b_4
      rw [b_4]
      refine lv_istore_n (lv' := [(1, .int (0 : Int32)), (0, .ref (c 104))]) hx hb dX4_choose_5 rfl hl (by decide) rfl (fun ls hl => ?_)
      refine lv_aload_n hx hb dX4_choose_6 rfl (lv_at hl 1 rfl) ?_
      refine lv_iconst (v := 1) hx hb dX4_choose_7 (by decide) ?_
      refine vp_callSi (va_Run.run (va_runV (As := [.int (1 : Int32)]) (rest := []) ⟨hx, hb, hml, hown, hts⟩ (v_X4_isHead l dC dI c kc st lg ai al R (1 : Int32) (by omega) (by omega)) (cwV 1 hts gX4_choose_X4_isHead rfl rfl rfl (by decide +kernel) ⟨Nat.le_of_ble_eq_true rfl, Nat.le_of_ble_eq_true rfl⟩) ⟨fun a U g mk q => by obtain ⟨q0, qP, qK, qG⟩ := q; exact ⟨q0, qP, va_K.moved (u := U) (U := U.calling g mk a) (Vm.Alike.refl U.vm) qK, qG.same rfl⟩, va_recv hK hP (ci := 6) (q := (RX4, TX4, 6)) rfl (q0 := 4) rfl, fun U hU hW => ⟨rfl, by rw [hU]; exact hP, va_K.moved hW.alike hK, hGW.warm hW⟩⟩ rfl rfl hl.1 rfl (lv_room (Nat.le_of_ble_eq_true rfl)) dX4_choose_8 ⟨Nat.le_of_ble_eq_true rfl, Nat.le_of_ble_eq_true rfl⟩)) (fun r_5 er_5 => ?_)
      obtain ⟨k_6, k_7⟩ := er_5
      rcases iv_01 (a := r_5) (by omega) (by omega) with b_8 | b_8
      · skip
        have ib_8 := iv_eq b_8
        rw [b_8]
        refine lv_istore_n (lv' := [(2, .int (0 : Int32)), (1, .int (0 : Int32)), (0, .ref (c 104))]) hx hb dX4_choose_11 rfl hl (by decide) rfl (fun ls hl => ?_)
        refine lv_iload_n hx hb dX4_choose_12 rfl (lv_at hl 1 rfl) ?_
        refine lv_if_ne (tgt := 22) hx hb dX4_choose_13 (by decide) (fun c_9 => ?_) (fun c_9 => ?_)
        · skip
          have ic_9 := iv_ne c_9
          exfalso
          omega
        · skip
          have ic_9 := iv_eq c_9
          refine lv_iload_n hx hb dX4_choose_16 rfl (lv_at hl 0 rfl) ?_
          refine lv_if_ne (tgt := 22) hx hb dX4_choose_17 (by decide) (fun c_10 => ?_) (fun c_10 => ?_)
          · skip
            have ic_10 := iv_ne c_10
            exfalso
            omega
          · skip
            have ic_10 := iv_eq c_10
            refine lv_iconst (v := 0) hx hb dX4_choose_20 (by decide) ?_
            exact W.zret hx hb hr rfl (fun t ht hW => ⟨⟨_, _, rfl, rfl, st 15, st 16, (by omega), (by omega), (by omega), (by omega), by rw [ht]; exact hP⟩, hS.F ht⟩) hS.2.2 dX4_choose_21
      · skip
        have ib_8 := iv_eq b_8
        rw [b_8]
        refine lv_istore_n (lv' := [(2, .int (1 : Int32)), (1, .int (0 : Int32)), (0, .ref (c 104))]) hx hb dX4_choose_11 rfl hl (by decide) rfl (fun ls hl => ?_)
        refine lv_iload_n hx hb dX4_choose_12 rfl (lv_at hl 1 rfl) ?_
        refine lv_if_ne (tgt := 22) hx hb dX4_choose_13 (by decide) (fun c_11 => ?_) (fun c_11 => ?_)
        · skip
          have ic_11 := iv_ne c_11
          exfalso
          omega
        · skip
          have ic_11 := iv_eq c_11
          refine lv_iload_n hx hb dX4_choose_16 rfl (lv_at hl 0 rfl) ?_
          refine lv_if_ne (tgt := 22) hx hb dX4_choose_17 (by decide) (fun c_12 => ?_) (fun c_12 => ?_)
          · skip
            have ic_12 := iv_ne c_12
            refine lv_aload_n hx hb dX4_choose_22 rfl (lv_at hl 2 rfl) ?_
            refine lv_iload_n hx hb dX4_choose_23 rfl (lv_at hl 0 rfl) ?_
            refine lv_if_eq (tgt := 49) hx hb dX4_choose_24 (by decide) (fun c_13 => ?_) (fun c_13 => ?_)
            · skip
              have ic_13 := iv_eq c_13
              exfalso
              omega
            · skip
              have ic_13 := iv_ne c_13
              refine lv_iload_n hx hb dX4_choose_27 rfl (lv_at hl 1 rfl) ?_
              refine lv_if_eq (tgt := 45) hx hb dX4_choose_28 (by decide) (fun c_14 => ?_) (fun c_14 => ?_)
              · skip
                have ic_14 := iv_eq c_14
                refine lv_iconst (v := 1) hx hb dX4_choose_45 (by decide) ?_
                refine lv_goto (tgt := 50) hx hb dX4_choose_46 (by decide) ?_
                refine va_put (D := (dC, dI)) (ci := 6) (v := .int (1 : Int32)) (ty := .int) (C := RX4) (T := TX4) (N := 6) hx hb hts hin_X4 tyX4 tyX4_ok nmX4 hown hK hP (cw_D hD) hS 4 rfl rfl 2 (by decide) (hts (.fieldLink RX4 19 "BlockLog$Rows" "area" "I") (by decide +kernel)) (fun _ h9 => h9) rfl (by decide +kernel) rfl rfl (Nat.le_of_ble_eq_true rfl) dX4_choose_50 (fun H locs hP _ hS => ?_)
                have hP : va_P (dC, dI) vwCl (cw_W c kc (rU st 15 (1 : Int32)) lg ai al R) H := hP
                refine lv_aload_n hx hb dX4_choose_53 rfl (lv_at hl 2 rfl) ?_
                refine lv_aload_n hx hb dX4_choose_54 rfl (lv_at hl 2 rfl) ?_
                refine lv_aload_n hx hb dX4_choose_55 rfl (lv_at hl 2 rfl) ?_
                refine va_get (D := (dC, dI)) (ci := 6) (v := .int (1 : Int32)) (C := RX4) (T := TX4) (N := 6) hx hb hts hin_X4 hown hK hP 4 rfl rfl 2 (by decide) (hts (.fieldLink RX4 19 "BlockLog$Rows" "area" "I") (by decide +kernel)) (fun _ h9 => h9) rfl dX4_choose_56 ?_
                refine vp_callSl (va_Run.run (va_runV (As := [.int (1 : Int32)]) (rest := [.ref (c 104)]) ⟨hx, hb, hml, hown, hts⟩ (v_X4_generationOf l dC dI c kc (rU st 15 (1 : Int32)) lg ai al R (1 : Int32) (by omega) (by omega)) (cwV 1 hts gX4_choose_X4_generationOf rfl rfl rfl (by decide +kernel) ⟨Nat.le_of_ble_eq_true rfl, Nat.le_of_ble_eq_true rfl⟩) ⟨fun a U g mk q => by obtain ⟨q0, qP, qK, qG⟩ := q; exact ⟨q0, qP, va_K.moved (u := U) (U := U.calling g mk a) (Vm.Alike.refl U.vm) qK, qG.same rfl⟩, va_recv hK hP (ci := 6) (q := (RX4, TX4, 6)) rfl (q0 := 4) rfl, fun U hU hW => ⟨rfl, by rw [hU]; exact hP, va_K.moved hW.alike hK, hGW.warm hW⟩⟩ rfl rfl hl.1 rfl (lv_room (Nat.le_of_ble_eq_true rfl)) dX4_choose_59 ⟨Nat.le_of_ble_eq_true rfl, Nat.le_of_ble_eq_true rfl⟩)) (fun r_15 er_15 => ?_)
                refine lv_l2i hx hb dX4_choose_62 rfl ?_
                refine lv_topi (fun v_16 ev_16 => ?_)
                clear ev_16
                refine va_put (D := (dC, dI)) (ci := 6) (v := .int v_16) (ty := .int) (C := RX4) (T := TX4) (N := 6) hx hb hts hin_X4 tyX4 tyX4_ok nmX4 hown hK hP (cw_D hD) hS 4 rfl rfl 3 (by decide) (hts (.fieldLink RX4 23 "BlockLog$Rows" "generation" "I") (by decide +kernel)) (fun _ h9 => h9) rfl (by decide +kernel) rfl rfl (Nat.le_of_ble_eq_true rfl) dX4_choose_63 (fun H locs hP _ hS => ?_)
                have hP : va_P (dC, dI) vwCl (cw_W c kc (rU (rU st 15 (1 : Int32)) 16 v_16) lg ai al R) H := hP
                refine lv_iconst (v := 1) hx hb dX4_choose_66 (by decide) ?_
                exact W.zret hx hb hr rfl (fun t ht hW => ⟨⟨_, _, rfl, rfl, (1 : Int32), v_16, (by omega), (by omega), (by omega), (by omega), by rw [ht]; exact hP⟩, hS.F ht⟩) hS.2.2 dX4_choose_67
              · skip
                have ic_14 := iv_ne c_14
                exfalso
                omega
          · skip
            have ic_12 := iv_eq c_12
            exfalso
            omega
    · skip
      have ib_4 := iv_eq b_4
      rw [b_4]
      refine lv_istore_n (lv' := [(1, .int (1 : Int32)), (0, .ref (c 104))]) hx hb dX4_choose_5 rfl hl (by decide) rfl (fun ls hl => ?_)
      refine lv_aload_n hx hb dX4_choose_6 rfl (lv_at hl 1 rfl) ?_
      refine lv_iconst (v := 1) hx hb dX4_choose_7 (by decide) ?_
      refine vp_callSi (va_Run.run (va_runV (As := [.int (1 : Int32)]) (rest := []) ⟨hx, hb, hml, hown, hts⟩ (v_X4_isHead l dC dI c kc st lg ai al R (1 : Int32) (by omega) (by omega)) (cwV 1 hts gX4_choose_X4_isHead rfl rfl rfl (by decide +kernel) ⟨Nat.le_of_ble_eq_true rfl, Nat.le_of_ble_eq_true rfl⟩) ⟨fun a U g mk q => by obtain ⟨q0, qP, qK, qG⟩ := q; exact ⟨q0, qP, va_K.moved (u := U) (U := U.calling g mk a) (Vm.Alike.refl U.vm) qK, qG.same rfl⟩, va_recv hK hP (ci := 6) (q := (RX4, TX4, 6)) rfl (q0 := 4) rfl, fun U hU hW => ⟨rfl, by rw [hU]; exact hP, va_K.moved hW.alike hK, hGW.warm hW⟩⟩ rfl rfl hl.1 rfl (lv_room (Nat.le_of_ble_eq_true rfl)) dX4_choose_8 ⟨Nat.le_of_ble_eq_true rfl, Nat.le_of_ble_eq_true rfl⟩)) (fun r_17 er_17 => ?_)
      obtain ⟨k_18, k_19⟩ := er_17
      rcases iv_01 (a := r_17) (by omega) (by omega) with b_20 | b_20
      · skip
        have ib_20 := iv_eq b_20
        rw [b_20]
        refine lv_istore_n (lv' := [(2, .int (0 : Int32)), (1, .int (1 : Int32)), (0, .ref (c 104))]) hx hb dX4_choose_11 rfl hl (by decide) rfl (fun ls hl => ?_)
        refine lv_iload_n hx hb dX4_choose_12 rfl (lv_at hl 1 rfl) ?_
        refine lv_if_ne (tgt := 22) hx hb dX4_choose_13 (by decide) (fun c_21 => ?_) (fun c_21 => ?_)
        · skip
          have ic_21 := iv_ne c_21
          refine lv_aload_n hx hb dX4_choose_22 rfl (lv_at hl 2 rfl) ?_
          refine lv_iload_n hx hb dX4_choose_23 rfl (lv_at hl 0 rfl) ?_
          refine lv_if_eq (tgt := 49) hx hb dX4_choose_24 (by decide) (fun c_22 => ?_) (fun c_22 => ?_)
          · skip
            have ic_22 := iv_eq c_22
            refine lv_iconst (v := 0) hx hb dX4_choose_49 (by decide) ?_
            refine va_put (D := (dC, dI)) (ci := 6) (v := .int (0 : Int32)) (ty := .int) (C := RX4) (T := TX4) (N := 6) hx hb hts hin_X4 tyX4 tyX4_ok nmX4 hown hK hP (cw_D hD) hS 4 rfl rfl 2 (by decide) (hts (.fieldLink RX4 19 "BlockLog$Rows" "area" "I") (by decide +kernel)) (fun _ h9 => h9) rfl (by decide +kernel) rfl rfl (Nat.le_of_ble_eq_true rfl) dX4_choose_50 (fun H locs hP _ hS => ?_)
            have hP : va_P (dC, dI) vwCl (cw_W c kc (rU st 15 (0 : Int32)) lg ai al R) H := hP
            refine lv_aload_n hx hb dX4_choose_53 rfl (lv_at hl 2 rfl) ?_
            refine lv_aload_n hx hb dX4_choose_54 rfl (lv_at hl 2 rfl) ?_
            refine lv_aload_n hx hb dX4_choose_55 rfl (lv_at hl 2 rfl) ?_
            refine va_get (D := (dC, dI)) (ci := 6) (v := .int (0 : Int32)) (C := RX4) (T := TX4) (N := 6) hx hb hts hin_X4 hown hK hP 4 rfl rfl 2 (by decide) (hts (.fieldLink RX4 19 "BlockLog$Rows" "area" "I") (by decide +kernel)) (fun _ h9 => h9) rfl dX4_choose_56 ?_
            refine vp_callSl (va_Run.run (va_runV (As := [.int (0 : Int32)]) (rest := [.ref (c 104)]) ⟨hx, hb, hml, hown, hts⟩ (v_X4_generationOf l dC dI c kc (rU st 15 (0 : Int32)) lg ai al R (0 : Int32) (by omega) (by omega)) (cwV 1 hts gX4_choose_X4_generationOf rfl rfl rfl (by decide +kernel) ⟨Nat.le_of_ble_eq_true rfl, Nat.le_of_ble_eq_true rfl⟩) ⟨fun a U g mk q => by obtain ⟨q0, qP, qK, qG⟩ := q; exact ⟨q0, qP, va_K.moved (u := U) (U := U.calling g mk a) (Vm.Alike.refl U.vm) qK, qG.same rfl⟩, va_recv hK hP (ci := 6) (q := (RX4, TX4, 6)) rfl (q0 := 4) rfl, fun U hU hW => ⟨rfl, by rw [hU]; exact hP, va_K.moved hW.alike hK, hGW.warm hW⟩⟩ rfl rfl hl.1 rfl (lv_room (Nat.le_of_ble_eq_true rfl)) dX4_choose_59 ⟨Nat.le_of_ble_eq_true rfl, Nat.le_of_ble_eq_true rfl⟩)) (fun r_23 er_23 => ?_)
            refine lv_l2i hx hb dX4_choose_62 rfl ?_
            refine lv_topi (fun v_24 ev_24 => ?_)
            clear ev_24
            refine va_put (D := (dC, dI)) (ci := 6) (v := .int v_24) (ty := .int) (C := RX4) (T := TX4) (N := 6) hx hb hts hin_X4 tyX4 tyX4_ok nmX4 hown hK hP (cw_D hD) hS 4 rfl rfl 3 (by decide) (hts (.fieldLink RX4 23 "BlockLog$Rows" "generation" "I") (by decide +kernel)) (fun _ h9 => h9) rfl (by decide +kernel) rfl rfl (Nat.le_of_ble_eq_true rfl) dX4_choose_63 (fun H locs hP _ hS => ?_)
            have hP : va_P (dC, dI) vwCl (cw_W c kc (rU (rU st 15 (0 : Int32)) 16 v_24) lg ai al R) H := hP
            refine lv_iconst (v := 1) hx hb dX4_choose_66 (by decide) ?_
            exact W.zret hx hb hr rfl (fun t ht hW => ⟨⟨_, _, rfl, rfl, (0 : Int32), v_24, (by omega), (by omega), (by omega), (by omega), by rw [ht]; exact hP⟩, hS.F ht⟩) hS.2.2 dX4_choose_67
          · skip
            have ic_22 := iv_ne c_22
            exfalso
            omega
        · skip
          have ic_21 := iv_eq c_21
          exfalso
          omega
      · skip
        have ib_20 := iv_eq b_20
        rw [b_20]
        refine lv_istore_n (lv' := [(2, .int (1 : Int32)), (1, .int (1 : Int32)), (0, .ref (c 104))]) hx hb dX4_choose_11 rfl hl (by decide) rfl (fun ls hl => ?_)
        refine lv_iload_n hx hb dX4_choose_12 rfl (lv_at hl 1 rfl) ?_
        refine lv_if_ne (tgt := 22) hx hb dX4_choose_13 (by decide) (fun c_25 => ?_) (fun c_25 => ?_)
        · skip
          have ic_25 := iv_ne c_25
          refine lv_aload_n hx hb dX4_choose_22 rfl (lv_at hl 2 rfl) ?_
          refine lv_iload_n hx hb dX4_choose_23 rfl (lv_at hl 0 rfl) ?_
          refine lv_if_eq (tgt := 49) hx hb dX4_choose_24 (by decide) (fun c_26 => ?_) (fun c_26 => ?_)
          · skip
            have ic_26 := iv_eq c_26
            exfalso
            omega
          · skip
            have ic_26 := iv_ne c_26
            refine lv_iload_n hx hb dX4_choose_27 rfl (lv_at hl 1 rfl) ?_
            refine lv_if_eq (tgt := 45) hx hb dX4_choose_28 (by decide) (fun c_27 => ?_) (fun c_27 => ?_)
            · skip
              have ic_27 := iv_eq c_27
              exfalso
              omega
            · skip
              have ic_27 := iv_ne c_27
              refine lv_aload_n hx hb dX4_choose_31 rfl (lv_at hl 2 rfl) ?_
              refine lv_iconst (v := 1) hx hb dX4_choose_32 (by decide) ?_
              refine vp_callSl (va_Run.run (va_runV (As := [.int (1 : Int32)]) (rest := [.ref (c 104)]) ⟨hx, hb, hml, hown, hts⟩ (v_X4_generationOf l dC dI c kc st lg ai al R (1 : Int32) (by omega) (by omega)) (cwV 1 hts gX4_choose_X4_generationOf rfl rfl rfl (by decide +kernel) ⟨Nat.le_of_ble_eq_true rfl, Nat.le_of_ble_eq_true rfl⟩) ⟨fun a U g mk q => by obtain ⟨q0, qP, qK, qG⟩ := q; exact ⟨q0, qP, va_K.moved (u := U) (U := U.calling g mk a) (Vm.Alike.refl U.vm) qK, qG.same rfl⟩, va_recv hK hP (ci := 6) (q := (RX4, TX4, 6)) rfl (q0 := 4) rfl, fun U hU hW => ⟨rfl, by rw [hU]; exact hP, va_K.moved hW.alike hK, hGW.warm hW⟩⟩ rfl rfl hl.1 rfl (lv_room (Nat.le_of_ble_eq_true rfl)) dX4_choose_33 ⟨Nat.le_of_ble_eq_true rfl, Nat.le_of_ble_eq_true rfl⟩)) (fun r_28 er_28 => ?_)
              refine lv_aload_n hx hb dX4_choose_36 rfl (lv_at hl 2 rfl) ?_
              refine lv_iconst (v := 0) hx hb dX4_choose_37 (by decide) ?_
              refine vp_callSl (va_Run.run (va_runV (As := [.int (0 : Int32)]) (rest := [.long r_28, .ref (c 104)]) ⟨hx, hb, hml, hown, hts⟩ (v_X4_generationOf l dC dI c kc st lg ai al R (0 : Int32) (by omega) (by omega)) (cwV 1 hts gX4_choose_X4_generationOf rfl rfl rfl (by decide +kernel) ⟨Nat.le_of_ble_eq_true rfl, Nat.le_of_ble_eq_true rfl⟩) ⟨fun a U g mk q => by obtain ⟨q0, qP, qK, qG⟩ := q; exact ⟨q0, qP, va_K.moved (u := U) (U := U.calling g mk a) (Vm.Alike.refl U.vm) qK, qG.same rfl⟩, va_recv hK hP (ci := 6) (q := (RX4, TX4, 6)) rfl (q0 := 4) rfl, fun U hU hW => ⟨rfl, by rw [hU]; exact hP, va_K.moved hW.alike hK, hGW.warm hW⟩⟩ rfl rfl hl.1 rfl (lv_room (Nat.le_of_ble_eq_true rfl)) dX4_choose_38 ⟨Nat.le_of_ble_eq_true rfl, Nat.le_of_ble_eq_true rfl⟩)) (fun r_29 er_29 => ?_)
              refine W.lcmp hx hb dX4_choose_41 ?_
              refine lv_topi (fun v_30 ev_30 => ?_)
              clear ev_30
              refine lv_if_lt (tgt := 49) hx hb dX4_choose_42 (by decide) (fun c_31 => ?_) (fun c_31 => ?_)
              · skip
                have ic_31 := iv_lt c_31
                refine lv_iconst (v := 0) hx hb dX4_choose_49 (by decide) ?_
                refine va_put (D := (dC, dI)) (ci := 6) (v := .int (0 : Int32)) (ty := .int) (C := RX4) (T := TX4) (N := 6) hx hb hts hin_X4 tyX4 tyX4_ok nmX4 hown hK hP (cw_D hD) hS 4 rfl rfl 2 (by decide) (hts (.fieldLink RX4 19 "BlockLog$Rows" "area" "I") (by decide +kernel)) (fun _ h9 => h9) rfl (by decide +kernel) rfl rfl (Nat.le_of_ble_eq_true rfl) dX4_choose_50 (fun H locs hP _ hS => ?_)
                have hP : va_P (dC, dI) vwCl (cw_W c kc (rU st 15 (0 : Int32)) lg ai al R) H := hP
                refine lv_aload_n hx hb dX4_choose_53 rfl (lv_at hl 2 rfl) ?_
                refine lv_aload_n hx hb dX4_choose_54 rfl (lv_at hl 2 rfl) ?_
                refine lv_aload_n hx hb dX4_choose_55 rfl (lv_at hl 2 rfl) ?_
                refine va_get (D := (dC, dI)) (ci := 6) (v := .int (0 : Int32)) (C := RX4) (T := TX4) (N := 6) hx hb hts hin_X4 hown hK hP 4 rfl rfl 2 (by decide) (hts (.fieldLink RX4 19 "BlockLog$Rows" "area" "I") (by decide +kernel)) (fun _ h9 => h9) rfl dX4_choose_56 ?_
                refine vp_callSl (va_Run.run (va_runV (As := [.int (0 : Int32)]) (rest := [.ref (c 104)]) ⟨hx, hb, hml, hown, hts⟩ (v_X4_generationOf l dC dI c kc (rU st 15 (0 : Int32)) lg ai al R (0 : Int32) (by omega) (by omega)) (cwV 1 hts gX4_choose_X4_generationOf rfl rfl rfl (by decide +kernel) ⟨Nat.le_of_ble_eq_true rfl, Nat.le_of_ble_eq_true rfl⟩) ⟨fun a U g mk q => by obtain ⟨q0, qP, qK, qG⟩ := q; exact ⟨q0, qP, va_K.moved (u := U) (U := U.calling g mk a) (Vm.Alike.refl U.vm) qK, qG.same rfl⟩, va_recv hK hP (ci := 6) (q := (RX4, TX4, 6)) rfl (q0 := 4) rfl, fun U hU hW => ⟨rfl, by rw [hU]; exact hP, va_K.moved hW.alike hK, hGW.warm hW⟩⟩ rfl rfl hl.1 rfl (lv_room (Nat.le_of_ble_eq_true rfl)) dX4_choose_59 ⟨Nat.le_of_ble_eq_true rfl, Nat.le_of_ble_eq_true rfl⟩)) (fun r_32 er_32 => ?_)
                refine lv_l2i hx hb dX4_choose_62 rfl ?_
                refine lv_topi (fun v_33 ev_33 => ?_)
                clear ev_33
                refine va_put (D := (dC, dI)) (ci := 6) (v := .int v_33) (ty := .int) (C := RX4) (T := TX4) (N := 6) hx hb hts hin_X4 tyX4 tyX4_ok nmX4 hown hK hP (cw_D hD) hS 4 rfl rfl 3 (by decide) (hts (.fieldLink RX4 23 "BlockLog$Rows" "generation" "I") (by decide +kernel)) (fun _ h9 => h9) rfl (by decide +kernel) rfl rfl (Nat.le_of_ble_eq_true rfl) dX4_choose_63 (fun H locs hP _ hS => ?_)
                have hP : va_P (dC, dI) vwCl (cw_W c kc (rU (rU st 15 (0 : Int32)) 16 v_33) lg ai al R) H := hP
                refine lv_iconst (v := 1) hx hb dX4_choose_66 (by decide) ?_
                exact W.zret hx hb hr rfl (fun t ht hW => ⟨⟨_, _, rfl, rfl, (0 : Int32), v_33, (by omega), (by omega), (by omega), (by omega), by rw [ht]; exact hP⟩, hS.F ht⟩) hS.2.2 dX4_choose_67
              · skip
                have ic_31 := iv_nlt c_31
                refine lv_iconst (v := 1) hx hb dX4_choose_45 (by decide) ?_
                refine lv_goto (tgt := 50) hx hb dX4_choose_46 (by decide) ?_
                refine va_put (D := (dC, dI)) (ci := 6) (v := .int (1 : Int32)) (ty := .int) (C := RX4) (T := TX4) (N := 6) hx hb hts hin_X4 tyX4 tyX4_ok nmX4 hown hK hP (cw_D hD) hS 4 rfl rfl 2 (by decide) (hts (.fieldLink RX4 19 "BlockLog$Rows" "area" "I") (by decide +kernel)) (fun _ h9 => h9) rfl (by decide +kernel) rfl rfl (Nat.le_of_ble_eq_true rfl) dX4_choose_50 (fun H locs hP _ hS => ?_)
                have hP : va_P (dC, dI) vwCl (cw_W c kc (rU st 15 (1 : Int32)) lg ai al R) H := hP
                refine lv_aload_n hx hb dX4_choose_53 rfl (lv_at hl 2 rfl) ?_
                refine lv_aload_n hx hb dX4_choose_54 rfl (lv_at hl 2 rfl) ?_
                refine lv_aload_n hx hb dX4_choose_55 rfl (lv_at hl 2 rfl) ?_
                refine va_get (D := (dC, dI)) (ci := 6) (v := .int (1 : Int32)) (C := RX4) (T := TX4) (N := 6) hx hb hts hin_X4 hown hK hP 4 rfl rfl 2 (by decide) (hts (.fieldLink RX4 19 "BlockLog$Rows" "area" "I") (by decide +kernel)) (fun _ h9 => h9) rfl dX4_choose_56 ?_
                refine vp_callSl (va_Run.run (va_runV (As := [.int (1 : Int32)]) (rest := [.ref (c 104)]) ⟨hx, hb, hml, hown, hts⟩ (v_X4_generationOf l dC dI c kc (rU st 15 (1 : Int32)) lg ai al R (1 : Int32) (by omega) (by omega)) (cwV 1 hts gX4_choose_X4_generationOf rfl rfl rfl (by decide +kernel) ⟨Nat.le_of_ble_eq_true rfl, Nat.le_of_ble_eq_true rfl⟩) ⟨fun a U g mk q => by obtain ⟨q0, qP, qK, qG⟩ := q; exact ⟨q0, qP, va_K.moved (u := U) (U := U.calling g mk a) (Vm.Alike.refl U.vm) qK, qG.same rfl⟩, va_recv hK hP (ci := 6) (q := (RX4, TX4, 6)) rfl (q0 := 4) rfl, fun U hU hW => ⟨rfl, by rw [hU]; exact hP, va_K.moved hW.alike hK, hGW.warm hW⟩⟩ rfl rfl hl.1 rfl (lv_room (Nat.le_of_ble_eq_true rfl)) dX4_choose_59 ⟨Nat.le_of_ble_eq_true rfl, Nat.le_of_ble_eq_true rfl⟩)) (fun r_34 er_34 => ?_)
                refine lv_l2i hx hb dX4_choose_62 rfl ?_
                refine lv_topi (fun v_35 ev_35 => ?_)
                clear ev_35
                refine va_put (D := (dC, dI)) (ci := 6) (v := .int v_35) (ty := .int) (C := RX4) (T := TX4) (N := 6) hx hb hts hin_X4 tyX4 tyX4_ok nmX4 hown hK hP (cw_D hD) hS 4 rfl rfl 3 (by decide) (hts (.fieldLink RX4 23 "BlockLog$Rows" "generation" "I") (by decide +kernel)) (fun _ h9 => h9) rfl (by decide +kernel) rfl rfl (Nat.le_of_ble_eq_true rfl) dX4_choose_63 (fun H locs hP _ hS => ?_)
                have hP : va_P (dC, dI) vwCl (cw_W c kc (rU (rU st 15 (1 : Int32)) 16 v_35) lg ai al R) H := hP
                refine lv_iconst (v := 1) hx hb dX4_choose_66 (by decide) ?_
                exact W.zret hx hb hr rfl (fun t ht hW => ⟨⟨_, _, rfl, rfl, (1 : Int32), v_35, (by omega), (by omega), (by omega), (by omega), by rw [ht]; exact hP⟩, hS.F ht⟩) hS.2.2 dX4_choose_67
        · skip
          have ic_25 := iv_eq c_25
          exfalso
          omega
  exact main s.heap [] hP hS

set_option maxHeartbeats 4000000 in
set_option maxRecDepth 100000 in
theorem v_X4_clear (l : Launch) (dC : Nat → ClassId) (dI : Nat → Nat → Nat) (c : Nat → Nat) (kc : Nat → ClassId) (st : Nat → Int32) (lg : Nat → Int64) (ai : Nat → Nat → Int32) (al : Nat → Nat → Int64) (R : va_W)  (sz : Nat) (hf9a : 0 ≤ (st 9).toInt) (hf9b : (st 9).toInt ≤ 1) (hf15a : 0 ≤ (st 15).toInt) (hf15b : (st 15).toInt ≤ 1) (hf17a : 0 ≤ (st 17).toInt) (hf17b : (st 17).toInt ≤ 128) (hR7 : aR (ai 7) 8224 (-128) 127) : Met l yX4_clear wsX4_clear ({ frames := 5, cells := 0, slots := 0, locals := 120 }) (va_Pc [.ref (c 104)] (fun U => U.heap.size = sz ∧ va_P (dC, dI) vwCl (cw_W c kc st lg ai al R) U.heap ∧ va_K (dC, dI) vwCl (cw_T kc) U ∧ va_D (fun _ => True) (cw_W c kc st lg ai al R) ∧ gx_E (va_A (cw_W c kc st lg ai al R) sz) U)) (va_Qi (fun r (u : Int32) => r = u) (fun u t => ∃ (x9 : Int32) (x10 : Int32) (x11 : Int32) (x17 : Int32) (x18 : Int32) (f7 : Nat → Int32) (f8 : Nat → Int32), (0 ≤ u.toInt) ∧ (u.toInt ≤ 1) ∧ (0 ≤ x9.toInt) ∧ (x9.toInt ≤ 1) ∧ (0 ≤ x17.toInt) ∧ (x17.toInt ≤ 128) ∧ (aR f7 8224 (-128) 127) ∧ va_P (dC, dI) vwCl (cw_W c kc (rU (rU (rU (rU (rU st 9 x9) 10 x10) 11 x11) 17 x17) 18 x18) lg (rU (rU ai 7 f7) 8 f8) al R) t.heap) (va_A (cw_W c kc st lg ai al R) sz)) 0 0 (va_A (cw_W c kc st lg ai al R) sz) := by
  refine Met.ofW (cc := cX4_clear) (maxL := 3) (ret := (some .boolean)) (by decide) rfl ?_
  intro p e s m args below meth cM s₁ B hml hv
  obtain ⟨rfl, hsz, hP, hK, hD0, hG⟩ := hv
  have hx := B.exec
  have hb := B.bytes
  have hr := B.returns
  have hts := atoms_spec (ws := wsX4_clear) B.pre
  have hown : s.vm.findClass RX4 = some m.cls := findClass_of_methodNamed B.named
  have hGW := hG.1
  subst hsz
  have hD := hD0.self (sz := s.heap.size)
  generalize hAe : va_A (cw_W c kc st lg ai al R) s.heap.size = A at hD hG ⊢
  have hA : ∀ q : Nat, s.heap.size ≤ q → A q := fun q h => by rw [← hAe]; exact Or.inr h
  have hS : va_S A s.heap s.heap [] := va_S.rf
  clear hAe hD0
  have hl := lv_entry ([.ref (c 104)]) (n := 3) (Nat.le_of_ble_eq_true rfl)
  rw [lg_entry_eq]
  generalize (lg_sl ([.ref (c 104)]) ++ List.replicate (3 - (lg_sl ([.ref (c 104)])).length) Slot.unset).toArray = ls at hl ⊢
  have hl : lv_has ls 3 [(0, .ref (c 104))] := hl
  have z_0 : (0 : Int32).toInt = 0 := by decide
  have z_1 : (1 : Int32).toInt = 1 := by decide
  have z_3 : (3 : Int32).toInt = 3 := by decide
  have z_4 : (4 : Int32).toInt = 4 := by decide
  have z_16 : (16 : Int32).toInt = 16 := by decide
  have z_128 : (128 : Int32).toInt = 128 := by decide
  have hin_X1 : ∀ w ∈ u_ws RX1 TX1 7, w ∈ wsX4_clear := by decide +kernel
  have hin_X4 : ∀ w ∈ u_ws RX4 TX4 6, w ∈ wsX4_clear := by decide +kernel
  have main : ∀ (H : Heap) (locs : List Loc), va_P (dC, dI) vwCl (cw_W c kc st lg ai al R) H → va_S A s.heap H locs → W p l e (headSpec wsX4_clear ({ frames := 5, cells := 0, slots := 0, locals := 120 })).room s m ([.ref (c 104)] : List Value).toArray below meth cM H locs 0 0 (MQ below (va_Qi (fun r (u : Int32) => r = u) (fun u t => ∃ (x9 : Int32) (x10 : Int32) (x11 : Int32) (x17 : Int32) (x18 : Int32) (f7 : Nat → Int32) (f8 : Nat → Int32), (0 ≤ u.toInt) ∧ (u.toInt ≤ 1) ∧ (0 ≤ x9.toInt) ∧ (x9.toInt ≤ 1) ∧ (0 ≤ x17.toInt) ∧ (x17.toInt ≤ 128) ∧ (aR f7 8224 (-128) 127) ∧ va_P (dC, dI) vwCl (cw_W c kc (rU (rU (rU (rU (rU st 9 x9) 10 x10) 11 x11) 17 x17) 18 x18) lg (rU (rU ai 7 f7) 8 f8) al R) t.heap) A) ([.ref (c 104)] : List Value).toArray s 0 0 A) (F0 m 0 ls []) := by
    intro H locs hP hS
    refine lv_iconst (v := 1) hx hb dX4_clear_0 (by decide) ?_
    refine lv_aload_n hx hb dX4_clear_1 rfl (lv_at hl 0 rfl) ?_
    refine va_get (D := (dC, dI)) (ci := 6) (v := .int (st 15)) (C := RX4) (T := TX4) (N := 6) hx hb hts hin_X4 hown hK hP 4 rfl rfl 2 (by decide) (hts (.fieldLink RX4 19 "BlockLog$Rows" "area" "I") (by decide +kernel)) (fun _ h9 => h9) rfl dX4_clear_2 ?_
    refine lv_isub hx hb dX4_clear_5 ?_
    refine lv_topi (fun v_1 ev_1 => ?_)
    have rg1 := iv_rng (st 15)
    have hv_1 : v_1.toInt = 1 - (st 15).toInt := by rw [ev_1]; exact (iv_sub (by omega) (by omega)).trans (by omega)
    clear ev_1
    refine lv_istore_n (lv' := [(1, .int v_1), (0, .ref (c 104))]) hx hb dX4_clear_6 rfl hl (by decide) rfl (fun ls hl => ?_)
    refine lv_aload_n hx hb dX4_clear_7 rfl (lv_at hl 1 rfl) ?_
    refine va_get (D := (dC, dI)) (ci := 6) (v := .ref (c 102)) (C := RX4) (T := TX4) (N := 6) hx hb hts hin_X4 hown hK hP 4 rfl rfl 0 (by decide) (hts (.fieldLink RX4 9 "BlockLog$Rows" "disk" "LBlockLog$Disk;") (by decide +kernel)) (fun _ h9 => h9) rfl dX4_clear_8 ?_
    refine va_getN (D := (dC, dI)) (ci := 3) (v := .ref (c 7)) (C := RX1) (T := TX1) (N := 7) hx hb hts hin_X1 hown hK hP 2 rfl rfl 1 (by decide) (va_Nw.use rfl (hGW.1 ("BlockLog$Rows", 36, "BlockLog$Disk", "low", "[B", "BlockLog") (by decide +kernel))) (fun _ h9 => h9) rfl dX4_clear_11 ?_
    refine lv_bipush (v := 16) hx hb dX4_clear_14 (by decide) ?_
    refine lv_iload_n hx hb dX4_clear_16 rfl (lv_at hl 0 rfl) ?_
    refine lv_imul hx hb dX4_clear_17 ?_
    refine lv_topi (fun v_2 ev_2 => ?_)
    have rg2 := iv_rng v_1
    have hv_2 : v_2.toInt = 16 * v_1.toInt := by rw [ev_2]; exact (iv_mulc z_16 (by omega) (by omega)).trans (by omega)
    clear ev_2
    refine lv_bipush (v := 16) hx hb dX4_clear_18 (by decide) ?_
    refine vp_callSi (va_Run.run (va_runS (As := [.ref (c 7), .int v_2, .int (16 : Int32)]) (rest := []) ⟨hx, hb, hml, hown, hts⟩ (v_X0_isZero l dC dI (cw_W c kc st lg ai al R) (cw_T kc) (c 7) 8224 (kc 7) (ai 7) 12 4 v_2 (16 : Int32) rfl rfl (by omega) (by omega) (by omega) (by omega)) (va_cwS 3 hts gX4_clear_X0_isZero rfl rfl rfl (by decide +kernel) ⟨Nat.le_of_ble_eq_true rfl, Nat.le_of_ble_eq_true rfl⟩) ⟨fun a U g mk q => by obtain ⟨q0, qP, qK⟩ := q; exact ⟨q0, qP, va_K.moved (u := U) (U := U.calling g mk a) (Vm.Alike.refl U.vm) qK⟩, fun U hU hW => ⟨rfl, by rw [hU]; exact hP, va_K.moved hW.alike hK⟩⟩ rfl rfl hl.1 rfl (lv_room (Nat.le_of_ble_eq_true rfl)) dX4_clear_20 ⟨Nat.le_of_ble_eq_true rfl, Nat.le_of_ble_eq_true rfl⟩)) (fun r_3 er_3 => ?_)
    obtain ⟨k_4, k_5⟩ := er_3
    rcases iv_01 (a := r_3) (by omega) (by omega) with b_6 | b_6
    · skip
      have ib_6 := iv_eq b_6
      rw [b_6]
      refine lv_if_ne (tgt := 39) hx hb dX4_clear_23 (by decide) (fun c_7 => ?_) (fun c_7 => ?_)
      · skip
        have ic_7 := iv_ne c_7
        exfalso
        omega
      · skip
        have ic_7 := iv_eq c_7
        refine lv_aload_n hx hb dX4_clear_26 rfl (lv_at hl 1 rfl) ?_
        refine va_get (D := (dC, dI)) (ci := 6) (v := .ref (c 102)) (C := RX4) (T := TX4) (N := 6) hx hb hts hin_X4 hown hK hP 4 rfl rfl 0 (by decide) (hts (.fieldLink RX4 9 "BlockLog$Rows" "disk" "LBlockLog$Disk;") (by decide +kernel)) (fun _ h9 => h9) rfl dX4_clear_27 ?_
        refine lv_iload_n hx hb dX4_clear_30 rfl (lv_at hl 0 rfl) ?_
        have hFc := vfree ((cw_D hD : va_D A (cw_W c kc st lg ai al R)) : va_D A (cw_W c kc st lg ai al R)) hS hA
        refine va_calli (va_runV (As := [.int v_1]) (rest := []) ⟨hx, hb, hml, hown, hts⟩ (v_X1_eraseHead l dC dI c kc st lg ai al R v_1 _ (show 0 ≤ (st 9).toInt by omega) (show (st 9).toInt ≤ 1 by omega) (by omega) (by omega) (show aR (ai 7) 8224 (-128) 127 from hR7)) (cwV 1 hts gX4_clear_X1_eraseHead rfl rfl rfl (by decide +kernel) ⟨Nat.le_of_ble_eq_true rfl, Nat.le_of_ble_eq_true rfl⟩) ⟨fun a U g mk q => by obtain ⟨q0, q1, qP, qK, qD⟩ := q; exact ⟨q0, q1, qP, va_K.moved (u := U) (U := U.calling g mk a) (Vm.Alike.refl U.vm) qK, qD⟩, va_recv hK hP (ci := 3) (q := (RX1, TX1, 7)) rfl (q0 := 2) rfl, fun U hU hW => ⟨rfl, by rw [hU], by rw [hU]; exact hP, va_K.moved hW.alike hK, ((cw_D hD : va_D A (cw_W c kc st lg ai al R))).weaken (fun _ _ _ _ => trivial)⟩⟩ rfl rfl hl.1 rfl (lv_room (Nat.le_of_ble_eq_true rfl)) dX4_clear_31 ⟨Nat.le_of_ble_eq_true rfl, Nat.le_of_ble_eq_true rfl⟩) hS (fun q _ h => hFc q h) hFc (fun r_8 ur_8 t H1 locs ht hvm er_8 hB hz1 hk1 hS => ?_)
        subst er_8
        obtain ⟨x9_8, x10_8, x11_8, f7_8, k_9, k_10, k_11, k_12, hR7, hP1⟩ := hB
        rw [ht] at hP1
        clear hFc hz1 hk1 hvm hP
        subst ht
        have hP := hP1
        clear hP1
        generalize t.heap = H at hP hS ⊢
        have hP : va_P (dC, dI) vwCl (cw_W c kc (rU (rU (rU st 9 x9_8) 10 x10_8) 11 x11_8) lg (rU ai 7 f7_8) al R) H := hP
        have k_11 : 0 ≤ x9_8.toInt := k_11
        have k_12 : x9_8.toInt ≤ 1 := k_12
        have hR7 : aR f7_8 8224 (-128) 127 := hR7
        rcases iv_01 (a := r_8) (by omega) (by omega) with b_13 | b_13
        · skip
          have ib_13 := iv_eq b_13
          rw [b_13]
          refine lv_if_ne (tgt := 39) hx hb dX4_clear_34 (by decide) (fun c_14 => ?_) (fun c_14 => ?_)
          · skip
            have ic_14 := iv_ne c_14
            exfalso
            omega
          · skip
            have ic_14 := iv_eq c_14
            refine lv_iconst (v := 0) hx hb dX4_clear_37 (by decide) ?_
            exact W.zret hx hb hr rfl (fun t ht hW => ⟨⟨_, _, rfl, rfl, x9_8, x10_8, x11_8, st 17, st 18, f7_8, ai 8, (by omega), (by omega), (by omega), (by omega), (by omega), (by omega), hR7, by rw [ht]; exact hP⟩, hS.F ht⟩) hS.2.2 dX4_clear_38
        · skip
          have ib_13 := iv_eq b_13
          rw [b_13]
          refine lv_if_ne (tgt := 39) hx hb dX4_clear_34 (by decide) (fun c_15 => ?_) (fun c_15 => ?_)
          · skip
            have ic_15 := iv_ne c_15
            refine lv_aload_n hx hb dX4_clear_39 rfl (lv_at hl 1 rfl) ?_
            refine lv_iconst (v := 0) hx hb dX4_clear_40 (by decide) ?_
            refine va_put (D := (dC, dI)) (ci := 6) (v := .int (0 : Int32)) (ty := .int) (C := RX4) (T := TX4) (N := 6) hx hb hts hin_X4 tyX4 tyX4_ok nmX4 hown hK hP (cw_D hD) hS 4 rfl rfl 5 (by decide) (hts (.fieldLink RX4 29 "BlockLog$Rows" "bad" "I") (by decide +kernel)) (fun _ h9 => h9) rfl (by decide +kernel) rfl rfl (Nat.le_of_ble_eq_true rfl) dX4_clear_41 (fun H locs hP _ hS => ?_)
            have hP : va_P (dC, dI) vwCl (cw_W c kc (rU (rU (rU (rU st 9 x9_8) 10 x10_8) 11 x11_8) 18 (0 : Int32)) lg (rU ai 7 f7_8) al R) H := hP
            refine lv_aload_n hx hb dX4_clear_44 rfl (lv_at hl 1 rfl) ?_
            refine lv_iconst (v := 0) hx hb dX4_clear_45 (by decide) ?_
            refine va_put (D := (dC, dI)) (ci := 6) (v := .int (0 : Int32)) (ty := .int) (C := RX4) (T := TX4) (N := 6) hx hb hts hin_X4 tyX4 tyX4_ok nmX4 hown hK hP (cw_D hD) hS 4 rfl rfl 4 (by decide) (hts (.fieldLink RX4 26 "BlockLog$Rows" "count" "I") (by decide +kernel)) (fun _ h9 => h9) rfl (by decide +kernel) rfl rfl (Nat.le_of_ble_eq_true rfl) dX4_clear_46 (fun H locs hP _ hS => ?_)
            have hP : va_P (dC, dI) vwCl (cw_W c kc (rU (rU (rU (rU (rU st 9 x9_8) 10 x10_8) 11 x11_8) 17 (0 : Int32)) 18 (0 : Int32)) lg (rU ai 7 f7_8) al R) H := hP
            have loop49 : ∀ (n : Nat) (s17_49 : Int32) (s18_49 : Int32) (a8_49 : Nat → Int32) (H : Heap) (locs : List Loc) (ls : Array Slot), (0 ≤ s17_49.toInt) → (s17_49.toInt ≤ 128) → (128 - s17_49.toInt : Int).toNat < n → va_P (dC, dI) vwCl (cw_W c kc (rU (rU (rU (rU (rU st 9 x9_8) 10 x10_8) 11 x11_8) 17 s17_49) 18 s18_49) lg (rU (rU ai 7 f7_8) 8 a8_49) al R) H → va_S A s.heap H locs → lv_has ls 3 [(1, .int v_1), (0, .ref (c 104))] → W p l e (headSpec wsX4_clear ({ frames := 5, cells := 0, slots := 0, locals := 120 })).room s m ([.ref (c 104)] : List Value).toArray below meth cM H locs 0 0 (MQ below (va_Qi (fun r (u : Int32) => r = u) (fun u t => ∃ (x9 : Int32) (x10 : Int32) (x11 : Int32) (x17 : Int32) (x18 : Int32) (f7 : Nat → Int32) (f8 : Nat → Int32), (0 ≤ u.toInt) ∧ (u.toInt ≤ 1) ∧ (0 ≤ x9.toInt) ∧ (x9.toInt ≤ 1) ∧ (0 ≤ x17.toInt) ∧ (x17.toInt ≤ 128) ∧ (aR f7 8224 (-128) 127) ∧ va_P (dC, dI) vwCl (cw_W c kc (rU (rU (rU (rU (rU st 9 x9) 10 x10) 11 x11) 17 x17) 18 x18) lg (rU (rU ai 7 f7) 8 f8) al R) t.heap) A) ([.ref (c 104)] : List Value).toArray s 0 0 A) (F0 m 49 ls []) := by
              intro n
              induction n with
              | zero => intro s17_49 s18_49 a8_49 H locs ls if0_49 if1_49 hm; exact absurd hm (Nat.not_lt_zero _)
              | succ n ih49 =>
                intro s17_49 s18_49 a8_49 H locs ls if0_49 if1_49 hm49 hP hS hl
                refine lv_aload_n hx hb dX4_clear_49 rfl (lv_at hl 1 rfl) ?_
                refine va_get (D := (dC, dI)) (ci := 6) (v := .int s17_49) (C := RX4) (T := TX4) (N := 6) hx hb hts hin_X4 hown hK hP 4 rfl rfl 4 (by decide) (hts (.fieldLink RX4 26 "BlockLog$Rows" "count" "I") (by decide +kernel)) (fun _ h9 => h9) rfl dX4_clear_50 ?_
                refine lv_sipush (v := 128) hx hb dX4_clear_53 (by decide) ?_
                refine lv_icmp_ge (tgt := 125) hx hb dX4_clear_56 (by decide) (fun c_16 => ?_) (fun c_16 => ?_)
                · skip
                  have ic_16 := iv_le c_16
                  refine lv_iconst (v := 1) hx hb dX4_clear_125 (by decide) ?_
                  exact W.zret hx hb hr rfl (fun t ht hW => ⟨⟨_, _, rfl, rfl, x9_8, x10_8, x11_8, s17_49, s18_49, f7_8, a8_49, (by omega), (by omega), (by omega), (by omega), (by omega), (by omega), hR7, by rw [ht]; exact hP⟩, hS.F ht⟩) hS.2.2 dX4_clear_126
                · skip
                  have ic_16 := iv_nle c_16
                  refine lv_aload_n hx hb dX4_clear_59 rfl (lv_at hl 1 rfl) ?_
                  refine lv_aload_n hx hb dX4_clear_60 rfl (lv_at hl 1 rfl) ?_
                  refine va_get (D := (dC, dI)) (ci := 6) (v := .int s17_49) (C := RX4) (T := TX4) (N := 6) hx hb hts hin_X4 hown hK hP 4 rfl rfl 4 (by decide) (hts (.fieldLink RX4 26 "BlockLog$Rows" "count" "I") (by decide +kernel)) (fun _ h9 => h9) rfl dX4_clear_61 ?_
                  have hFc := vfree ((cw_D hD : va_D A (cw_W c kc (rU (rU (rU (rU (rU st 9 x9_8) 10 x10_8) 11 x11_8) 17 s17_49) 18 s18_49) lg (rU (rU ai 7 f7_8) 8 a8_49) al R)) : va_D A (cw_W c kc (rU (rU (rU (rU (rU st 9 x9_8) 10 x10_8) 11 x11_8) 17 s17_49) 18 s18_49) lg (rU (rU ai 7 f7_8) 8 a8_49) al R)) hS hA
                  refine va_calli (va_runV (As := [.int s17_49]) (rest := []) ⟨hx, hb, hml, hown, hts⟩ (v_X4_state l dC dI c kc (rU (rU (rU (rU (rU st 9 x9_8) 10 x10_8) 11 x11_8) 17 s17_49) 18 s18_49) lg (rU (rU ai 7 f7_8) 8 a8_49) al R s17_49 _ (show 0 ≤ (st 15).toInt by omega) (show (st 15).toInt ≤ 1 by omega) (by omega) (by omega)) (cwV 1 hts gX4_clear_X4_state rfl rfl rfl (by decide +kernel) ⟨Nat.le_of_ble_eq_true rfl, Nat.le_of_ble_eq_true rfl⟩) ⟨fun a U g mk q => by obtain ⟨q0, q1, qP, qK, qD⟩ := q; exact ⟨q0, q1, qP, va_K.moved (u := U) (U := U.calling g mk a) (Vm.Alike.refl U.vm) qK, qD⟩, va_recv hK hP (ci := 6) (q := (RX4, TX4, 6)) rfl (q0 := 4) rfl, fun U hU hW => ⟨rfl, by rw [hU], by rw [hU]; exact hP, va_K.moved hW.alike hK, ((cw_D hD : va_D A (cw_W c kc (rU (rU (rU (rU (rU st 9 x9_8) 10 x10_8) 11 x11_8) 17 s17_49) 18 s18_49) lg (rU (rU ai 7 f7_8) 8 a8_49) al R))).weaken (fun _ _ _ _ => trivial)⟩⟩ rfl rfl hl.1 rfl (lv_room (Nat.le_of_ble_eq_true rfl)) dX4_clear_64 ⟨Nat.le_of_ble_eq_true rfl, Nat.le_of_ble_eq_true rfl⟩) hS (fun q _ h => hFc q h) hFc (fun r_17 ur_17 t H1 locs ht hvm er_17 hB hz1 hk1 hS => ?_)
                  subst er_17
                  obtain ⟨f8_17, hP1⟩ := hB
                  rw [ht] at hP1
                  clear hFc hz1 hk1 hvm hP
                  subst ht
                  have hP := hP1
                  clear hP1
                  generalize t.heap = H at hP hS ⊢
                  have hP : va_P (dC, dI) vwCl (cw_W c kc (rU (rU (rU (rU (rU st 9 x9_8) 10 x10_8) 11 x11_8) 17 s17_49) 18 s18_49) lg (rU (rU ai 7 f7_8) 8 f8_17) al R) H := hP
                  refine lv_istore_n (lv' := [(2, .int r_17), (1, .int v_1), (0, .ref (c 104))]) hx hb dX4_clear_67 rfl hl (by decide) rfl (fun ls hl => ?_)
                  refine lv_iload_n hx hb dX4_clear_68 rfl (lv_at hl 0 rfl) ?_
                  refine lv_iconst (v := 3) hx hb dX4_clear_69 (by decide) ?_
                  refine lv_icmp_ne (tgt := 90) hx hb dX4_clear_70 (by decide) (fun c_18 => ?_) (fun c_18 => ?_)
                  · skip
                    have ic_18 := iv_ne c_18
                    refine lv_iload_n hx hb dX4_clear_90 rfl (lv_at hl 0 rfl) ?_
                    refine lv_iconst (v := 1) hx hb dX4_clear_91 (by decide) ?_
                    refine lv_icmp_ne (tgt := 97) hx hb dX4_clear_92 (by decide) (fun c_19 => ?_) (fun c_19 => ?_)
                    · skip
                      have ic_19 := iv_ne c_19
                      refine lv_iload_n hx hb dX4_clear_97 rfl (lv_at hl 0 rfl) ?_
                      refine lv_iconst (v := 4) hx hb dX4_clear_98 (by decide) ?_
                      refine lv_icmp_ne (tgt := 112) hx hb dX4_clear_99 (by decide) (fun c_20 => ?_) (fun c_20 => ?_)
                      · skip
                        have ic_20 := iv_ne c_20
                        refine lv_aload_n hx hb dX4_clear_112 rfl (lv_at hl 2 rfl) ?_
                        refine lv_dup hx hb dX4_clear_113 rfl ?_
                        refine va_get (D := (dC, dI)) (ci := 6) (v := .int s17_49) (C := RX4) (T := TX4) (N := 6) hx hb hts hin_X4 hown hK hP 4 rfl rfl 4 (by decide) (hts (.fieldLink RX4 26 "BlockLog$Rows" "count" "I") (by decide +kernel)) (fun _ h9 => h9) rfl dX4_clear_114 ?_
                        refine lv_iconst (v := 1) hx hb dX4_clear_117 (by decide) ?_
                        refine lv_iadd hx hb dX4_clear_118 ?_
                        refine lv_topi (fun v_21 ev_21 => ?_)
                        have rg3 := iv_rng s17_49
                        have hv_21 : v_21.toInt = s17_49.toInt + 1 := by rw [ev_21]; exact (iv_add (by omega) (by omega)).trans (by omega)
                        clear ev_21
                        refine va_put (D := (dC, dI)) (ci := 6) (v := .int v_21) (ty := .int) (C := RX4) (T := TX4) (N := 6) hx hb hts hin_X4 tyX4 tyX4_ok nmX4 hown hK hP (cw_D hD) hS 4 rfl rfl 4 (by decide) (hts (.fieldLink RX4 26 "BlockLog$Rows" "count" "I") (by decide +kernel)) (fun _ h9 => h9) rfl (by decide +kernel) rfl rfl (Nat.le_of_ble_eq_true rfl) dX4_clear_119 (fun H locs hP _ hS => ?_)
                        have hP : va_P (dC, dI) vwCl (cw_W c kc (rU (rU (rU (rU (rU st 9 x9_8) 10 x10_8) 11 x11_8) 17 v_21) 18 s18_49) lg (rU (rU ai 7 f7_8) 8 f8_17) al R) H := hP
                        refine lv_goto (tgt := 49) hx hb dX4_clear_122 (by decide) ?_
                        exact ih49 v_21 s18_49 f8_17 _ _ _ (by omega) (by omega) (by omega) hP hS (lv_sub hl [1, 2] rfl)
                      · skip
                        have ic_20 := iv_eq c_20
                        refine lv_aload_n hx hb dX4_clear_102 rfl (lv_at hl 2 rfl) ?_
                        refine lv_dup hx hb dX4_clear_103 rfl ?_
                        refine va_get (D := (dC, dI)) (ci := 6) (v := .int s18_49) (C := RX4) (T := TX4) (N := 6) hx hb hts hin_X4 hown hK hP 4 rfl rfl 5 (by decide) (hts (.fieldLink RX4 29 "BlockLog$Rows" "bad" "I") (by decide +kernel)) (fun _ h9 => h9) rfl dX4_clear_104 ?_
                        refine lv_iconst (v := 1) hx hb dX4_clear_107 (by decide) ?_
                        refine lv_iadd hx hb dX4_clear_108 ?_
                        refine lv_topi (fun v_22 ev_22 => ?_)
                        clear ev_22
                        refine va_put (D := (dC, dI)) (ci := 6) (v := .int v_22) (ty := .int) (C := RX4) (T := TX4) (N := 6) hx hb hts hin_X4 tyX4 tyX4_ok nmX4 hown hK hP (cw_D hD) hS 4 rfl rfl 5 (by decide) (hts (.fieldLink RX4 29 "BlockLog$Rows" "bad" "I") (by decide +kernel)) (fun _ h9 => h9) rfl (by decide +kernel) rfl rfl (Nat.le_of_ble_eq_true rfl) dX4_clear_109 (fun H locs hP _ hS => ?_)
                        have hP : va_P (dC, dI) vwCl (cw_W c kc (rU (rU (rU (rU (rU st 9 x9_8) 10 x10_8) 11 x11_8) 17 s17_49) 18 v_22) lg (rU (rU ai 7 f7_8) 8 f8_17) al R) H := hP
                        refine lv_aload_n hx hb dX4_clear_112 rfl (lv_at hl 2 rfl) ?_
                        refine lv_dup hx hb dX4_clear_113 rfl ?_
                        refine va_get (D := (dC, dI)) (ci := 6) (v := .int s17_49) (C := RX4) (T := TX4) (N := 6) hx hb hts hin_X4 hown hK hP 4 rfl rfl 4 (by decide) (hts (.fieldLink RX4 26 "BlockLog$Rows" "count" "I") (by decide +kernel)) (fun _ h9 => h9) rfl dX4_clear_114 ?_
                        refine lv_iconst (v := 1) hx hb dX4_clear_117 (by decide) ?_
                        refine lv_iadd hx hb dX4_clear_118 ?_
                        refine lv_topi (fun v_23 ev_23 => ?_)
                        have rg4 := iv_rng s17_49
                        have hv_23 : v_23.toInt = s17_49.toInt + 1 := by rw [ev_23]; exact (iv_add (by omega) (by omega)).trans (by omega)
                        clear ev_23
                        refine va_put (D := (dC, dI)) (ci := 6) (v := .int v_23) (ty := .int) (C := RX4) (T := TX4) (N := 6) hx hb hts hin_X4 tyX4 tyX4_ok nmX4 hown hK hP (cw_D hD) hS 4 rfl rfl 4 (by decide) (hts (.fieldLink RX4 26 "BlockLog$Rows" "count" "I") (by decide +kernel)) (fun _ h9 => h9) rfl (by decide +kernel) rfl rfl (Nat.le_of_ble_eq_true rfl) dX4_clear_119 (fun H locs hP _ hS => ?_)
                        have hP : va_P (dC, dI) vwCl (cw_W c kc (rU (rU (rU (rU (rU st 9 x9_8) 10 x10_8) 11 x11_8) 17 v_23) 18 v_22) lg (rU (rU ai 7 f7_8) 8 f8_17) al R) H := hP
                        refine lv_goto (tgt := 49) hx hb dX4_clear_122 (by decide) ?_
                        exact ih49 v_23 v_22 f8_17 _ _ _ (by omega) (by omega) (by omega) hP hS (lv_sub hl [1, 2] rfl)
                    · skip
                      have ic_19 := iv_eq c_19
                      refine lv_iconst (v := 1) hx hb dX4_clear_95 (by decide) ?_
                      exact W.zret hx hb hr rfl (fun t ht hW => ⟨⟨_, _, rfl, rfl, x9_8, x10_8, x11_8, s17_49, s18_49, f7_8, f8_17, (by omega), (by omega), (by omega), (by omega), (by omega), (by omega), hR7, by rw [ht]; exact hP⟩, hS.F ht⟩) hS.2.2 dX4_clear_96
                  · skip
                    have ic_18 := iv_eq c_18
                    refine lv_aload_n hx hb dX4_clear_73 rfl (lv_at hl 2 rfl) ?_
                    refine va_get (D := (dC, dI)) (ci := 6) (v := .ref (c 102)) (C := RX4) (T := TX4) (N := 6) hx hb hts hin_X4 hown hK hP 4 rfl rfl 0 (by decide) (hts (.fieldLink RX4 9 "BlockLog$Rows" "disk" "LBlockLog$Disk;") (by decide +kernel)) (fun _ h9 => h9) rfl dX4_clear_74 ?_
                    refine lv_aload_n hx hb dX4_clear_77 rfl (lv_at hl 2 rfl) ?_
                    refine va_get (D := (dC, dI)) (ci := 6) (v := .int (st 15)) (C := RX4) (T := TX4) (N := 6) hx hb hts hin_X4 hown hK hP 4 rfl rfl 2 (by decide) (hts (.fieldLink RX4 19 "BlockLog$Rows" "area" "I") (by decide +kernel)) (fun _ h9 => h9) rfl dX4_clear_78 ?_
                    refine lv_aload_n hx hb dX4_clear_81 rfl (lv_at hl 2 rfl) ?_
                    refine va_get (D := (dC, dI)) (ci := 6) (v := .int s17_49) (C := RX4) (T := TX4) (N := 6) hx hb hts hin_X4 hown hK hP 4 rfl rfl 4 (by decide) (hts (.fieldLink RX4 26 "BlockLog$Rows" "count" "I") (by decide +kernel)) (fun _ h9 => h9) rfl dX4_clear_82 ?_
                    refine lv_iconst (v := 1) hx hb dX4_clear_85 (by decide) ?_
                    have hFc := vfree ((cw_D hD : va_D A (cw_W c kc (rU (rU (rU (rU (rU st 9 x9_8) 10 x10_8) 11 x11_8) 17 s17_49) 18 s18_49) lg (rU (rU ai 7 f7_8) 8 f8_17) al R)) : va_D A (cw_W c kc (rU (rU (rU (rU (rU st 9 x9_8) 10 x10_8) 11 x11_8) 17 s17_49) 18 s18_49) lg (rU (rU ai 7 f7_8) 8 f8_17) al R)) hS hA
                    refine va_calli (va_runV (As := [.int (st 15), .int s17_49, .int (1 : Int32)]) (rest := []) ⟨hx, hb, hml, hown, hts⟩ (v_X1_eraseRows l dC dI c kc (rU (rU (rU (rU (rU st 9 x9_8) 10 x10_8) 11 x11_8) 17 s17_49) 18 s18_49) lg (rU (rU ai 7 f7_8) 8 f8_17) al R (st 15) s17_49 (1 : Int32) _ (show 0 ≤ x9_8.toInt by omega) (show x9_8.toInt ≤ 1 by omega) (by omega) (by omega) (by omega) (by omega) (by omega) (show aR f7_8 8224 (-128) 127 from hR7)) (cwV 3 hts gX4_clear_X1_eraseRows rfl rfl rfl (by decide +kernel) ⟨Nat.le_of_ble_eq_true rfl, Nat.le_of_ble_eq_true rfl⟩) ⟨fun a U g mk q => by obtain ⟨q0, q1, qP, qK, qD⟩ := q; exact ⟨q0, q1, qP, va_K.moved (u := U) (U := U.calling g mk a) (Vm.Alike.refl U.vm) qK, qD⟩, va_recv hK hP (ci := 3) (q := (RX1, TX1, 7)) rfl (q0 := 2) rfl, fun U hU hW => ⟨rfl, by rw [hU], by rw [hU]; exact hP, va_K.moved hW.alike hK, ((cw_D hD : va_D A (cw_W c kc (rU (rU (rU (rU (rU st 9 x9_8) 10 x10_8) 11 x11_8) 17 s17_49) 18 s18_49) lg (rU (rU ai 7 f7_8) 8 f8_17) al R))).weaken (fun _ _ _ _ => trivial)⟩⟩ rfl rfl hl.1 rfl (lv_room (Nat.le_of_ble_eq_true rfl)) dX4_clear_86 ⟨Nat.le_of_ble_eq_true rfl, Nat.le_of_ble_eq_true rfl⟩) hS (fun q _ h => hFc q h) hFc (fun r_24 ur_24 t H1 locs ht hvm er_24 hB hz1 hk1 hS => ?_)
                    subst er_24
                    obtain ⟨x9_24, x10_24, x11_24, f7_24, f8_24, k_25, k_26, k_27, k_28, hR7, hP1⟩ := hB
                    rw [ht] at hP1
                    clear hFc hz1 hk1 hvm hP
                    subst ht
                    have hP := hP1
                    clear hP1
                    generalize t.heap = H at hP hS ⊢
                    have hP : va_P (dC, dI) vwCl (cw_W c kc (rU (rU (rU (rU (rU st 9 x9_24) 10 x10_24) 11 x11_24) 17 s17_49) 18 s18_49) lg (rU (rU ai 7 f7_24) 8 f8_24) al R) H := hP
                    have k_27 : 0 ≤ x9_24.toInt := k_27
                    have k_28 : x9_24.toInt ≤ 1 := k_28
                    have hR7 : aR f7_24 8224 (-128) 127 := hR7
                    rcases iv_01 (a := r_24) (by omega) (by omega) with b_29 | b_29
                    · skip
                      have ib_29 := iv_eq b_29
                      rw [b_29]
                      exact W.zret hx hb hr rfl (fun t ht hW => ⟨⟨_, _, rfl, rfl, x9_24, x10_24, x11_24, s17_49, s18_49, f7_24, f8_24, (by omega), (by omega), (by omega), (by omega), (by omega), (by omega), hR7, by rw [ht]; exact hP⟩, hS.F ht⟩) hS.2.2 dX4_clear_89
                    · skip
                      have ib_29 := iv_eq b_29
                      rw [b_29]
                      exact W.zret hx hb hr rfl (fun t ht hW => ⟨⟨_, _, rfl, rfl, x9_24, x10_24, x11_24, s17_49, s18_49, f7_24, f8_24, (by omega), (by omega), (by omega), (by omega), (by omega), (by omega), hR7, by rw [ht]; exact hP⟩, hS.F ht⟩) hS.2.2 dX4_clear_89
            exact loop49 ((128 - 0 : Int).toNat + 1) (0 : Int32) (0 : Int32) (ai 8) _ _ _ (by omega) (by omega) (by omega) hP hS (lv_sub hl [0, 1] rfl)
          · skip
            have ic_15 := iv_eq c_15
            exfalso
            omega
    · skip
      have ib_6 := iv_eq b_6
      rw [b_6]
      refine lv_if_ne (tgt := 39) hx hb dX4_clear_23 (by decide) (fun c_30 => ?_) (fun c_30 => ?_)
      · skip
        have ic_30 := iv_ne c_30
        refine lv_aload_n hx hb dX4_clear_39 rfl (lv_at hl 1 rfl) ?_
        refine lv_iconst (v := 0) hx hb dX4_clear_40 (by decide) ?_
        refine va_put (D := (dC, dI)) (ci := 6) (v := .int (0 : Int32)) (ty := .int) (C := RX4) (T := TX4) (N := 6) hx hb hts hin_X4 tyX4 tyX4_ok nmX4 hown hK hP (cw_D hD) hS 4 rfl rfl 5 (by decide) (hts (.fieldLink RX4 29 "BlockLog$Rows" "bad" "I") (by decide +kernel)) (fun _ h9 => h9) rfl (by decide +kernel) rfl rfl (Nat.le_of_ble_eq_true rfl) dX4_clear_41 (fun H locs hP _ hS => ?_)
        have hP : va_P (dC, dI) vwCl (cw_W c kc (rU st 18 (0 : Int32)) lg ai al R) H := hP
        refine lv_aload_n hx hb dX4_clear_44 rfl (lv_at hl 1 rfl) ?_
        refine lv_iconst (v := 0) hx hb dX4_clear_45 (by decide) ?_
        refine va_put (D := (dC, dI)) (ci := 6) (v := .int (0 : Int32)) (ty := .int) (C := RX4) (T := TX4) (N := 6) hx hb hts hin_X4 tyX4 tyX4_ok nmX4 hown hK hP (cw_D hD) hS 4 rfl rfl 4 (by decide) (hts (.fieldLink RX4 26 "BlockLog$Rows" "count" "I") (by decide +kernel)) (fun _ h9 => h9) rfl (by decide +kernel) rfl rfl (Nat.le_of_ble_eq_true rfl) dX4_clear_46 (fun H locs hP _ hS => ?_)
        have hP : va_P (dC, dI) vwCl (cw_W c kc (rU (rU st 17 (0 : Int32)) 18 (0 : Int32)) lg ai al R) H := hP
        have loop49 : ∀ (n : Nat) (s17_49 : Int32) (s18_49 : Int32) (a8_49 : Nat → Int32) (H : Heap) (locs : List Loc) (ls : Array Slot), (0 ≤ s17_49.toInt) → (s17_49.toInt ≤ 128) → (128 - s17_49.toInt : Int).toNat < n → va_P (dC, dI) vwCl (cw_W c kc (rU (rU st 17 s17_49) 18 s18_49) lg (rU ai 8 a8_49) al R) H → va_S A s.heap H locs → lv_has ls 3 [(1, .int v_1), (0, .ref (c 104))] → W p l e (headSpec wsX4_clear ({ frames := 5, cells := 0, slots := 0, locals := 120 })).room s m ([.ref (c 104)] : List Value).toArray below meth cM H locs 0 0 (MQ below (va_Qi (fun r (u : Int32) => r = u) (fun u t => ∃ (x9 : Int32) (x10 : Int32) (x11 : Int32) (x17 : Int32) (x18 : Int32) (f7 : Nat → Int32) (f8 : Nat → Int32), (0 ≤ u.toInt) ∧ (u.toInt ≤ 1) ∧ (0 ≤ x9.toInt) ∧ (x9.toInt ≤ 1) ∧ (0 ≤ x17.toInt) ∧ (x17.toInt ≤ 128) ∧ (aR f7 8224 (-128) 127) ∧ va_P (dC, dI) vwCl (cw_W c kc (rU (rU (rU (rU (rU st 9 x9) 10 x10) 11 x11) 17 x17) 18 x18) lg (rU (rU ai 7 f7) 8 f8) al R) t.heap) A) ([.ref (c 104)] : List Value).toArray s 0 0 A) (F0 m 49 ls []) := by
          intro n
          induction n with
          | zero => intro s17_49 s18_49 a8_49 H locs ls if0_49 if1_49 hm; exact absurd hm (Nat.not_lt_zero _)
          | succ n ih49 =>
            intro s17_49 s18_49 a8_49 H locs ls if0_49 if1_49 hm49 hP hS hl
            refine lv_aload_n hx hb dX4_clear_49 rfl (lv_at hl 1 rfl) ?_
            refine va_get (D := (dC, dI)) (ci := 6) (v := .int s17_49) (C := RX4) (T := TX4) (N := 6) hx hb hts hin_X4 hown hK hP 4 rfl rfl 4 (by decide) (hts (.fieldLink RX4 26 "BlockLog$Rows" "count" "I") (by decide +kernel)) (fun _ h9 => h9) rfl dX4_clear_50 ?_
            refine lv_sipush (v := 128) hx hb dX4_clear_53 (by decide) ?_
            refine lv_icmp_ge (tgt := 125) hx hb dX4_clear_56 (by decide) (fun c_31 => ?_) (fun c_31 => ?_)
            · skip
              have ic_31 := iv_le c_31
              refine lv_iconst (v := 1) hx hb dX4_clear_125 (by decide) ?_
              exact W.zret hx hb hr rfl (fun t ht hW => ⟨⟨_, _, rfl, rfl, st 9, st 10, st 11, s17_49, s18_49, ai 7, a8_49, (by omega), (by omega), (by omega), (by omega), (by omega), (by omega), hR7, by rw [ht]; exact hP⟩, hS.F ht⟩) hS.2.2 dX4_clear_126
            · skip
              have ic_31 := iv_nle c_31
              refine lv_aload_n hx hb dX4_clear_59 rfl (lv_at hl 1 rfl) ?_
              refine lv_aload_n hx hb dX4_clear_60 rfl (lv_at hl 1 rfl) ?_
              refine va_get (D := (dC, dI)) (ci := 6) (v := .int s17_49) (C := RX4) (T := TX4) (N := 6) hx hb hts hin_X4 hown hK hP 4 rfl rfl 4 (by decide) (hts (.fieldLink RX4 26 "BlockLog$Rows" "count" "I") (by decide +kernel)) (fun _ h9 => h9) rfl dX4_clear_61 ?_
              have hFc := vfree ((cw_D hD : va_D A (cw_W c kc (rU (rU st 17 s17_49) 18 s18_49) lg (rU ai 8 a8_49) al R)) : va_D A (cw_W c kc (rU (rU st 17 s17_49) 18 s18_49) lg (rU ai 8 a8_49) al R)) hS hA
              refine va_calli (va_runV (As := [.int s17_49]) (rest := []) ⟨hx, hb, hml, hown, hts⟩ (v_X4_state l dC dI c kc (rU (rU st 17 s17_49) 18 s18_49) lg (rU ai 8 a8_49) al R s17_49 _ (show 0 ≤ (st 15).toInt by omega) (show (st 15).toInt ≤ 1 by omega) (by omega) (by omega)) (cwV 1 hts gX4_clear_X4_state rfl rfl rfl (by decide +kernel) ⟨Nat.le_of_ble_eq_true rfl, Nat.le_of_ble_eq_true rfl⟩) ⟨fun a U g mk q => by obtain ⟨q0, q1, qP, qK, qD⟩ := q; exact ⟨q0, q1, qP, va_K.moved (u := U) (U := U.calling g mk a) (Vm.Alike.refl U.vm) qK, qD⟩, va_recv hK hP (ci := 6) (q := (RX4, TX4, 6)) rfl (q0 := 4) rfl, fun U hU hW => ⟨rfl, by rw [hU], by rw [hU]; exact hP, va_K.moved hW.alike hK, ((cw_D hD : va_D A (cw_W c kc (rU (rU st 17 s17_49) 18 s18_49) lg (rU ai 8 a8_49) al R))).weaken (fun _ _ _ _ => trivial)⟩⟩ rfl rfl hl.1 rfl (lv_room (Nat.le_of_ble_eq_true rfl)) dX4_clear_64 ⟨Nat.le_of_ble_eq_true rfl, Nat.le_of_ble_eq_true rfl⟩) hS (fun q _ h => hFc q h) hFc (fun r_32 ur_32 t H1 locs ht hvm er_32 hB hz1 hk1 hS => ?_)
              subst er_32
              obtain ⟨f8_32, hP1⟩ := hB
              rw [ht] at hP1
              clear hFc hz1 hk1 hvm hP
              subst ht
              have hP := hP1
              clear hP1
              generalize t.heap = H at hP hS ⊢
              have hP : va_P (dC, dI) vwCl (cw_W c kc (rU (rU st 17 s17_49) 18 s18_49) lg (rU ai 8 f8_32) al R) H := hP
              refine lv_istore_n (lv' := [(2, .int r_32), (1, .int v_1), (0, .ref (c 104))]) hx hb dX4_clear_67 rfl hl (by decide) rfl (fun ls hl => ?_)
              refine lv_iload_n hx hb dX4_clear_68 rfl (lv_at hl 0 rfl) ?_
              refine lv_iconst (v := 3) hx hb dX4_clear_69 (by decide) ?_
              refine lv_icmp_ne (tgt := 90) hx hb dX4_clear_70 (by decide) (fun c_33 => ?_) (fun c_33 => ?_)
              · skip
                have ic_33 := iv_ne c_33
                refine lv_iload_n hx hb dX4_clear_90 rfl (lv_at hl 0 rfl) ?_
                refine lv_iconst (v := 1) hx hb dX4_clear_91 (by decide) ?_
                refine lv_icmp_ne (tgt := 97) hx hb dX4_clear_92 (by decide) (fun c_34 => ?_) (fun c_34 => ?_)
                · skip
                  have ic_34 := iv_ne c_34
                  refine lv_iload_n hx hb dX4_clear_97 rfl (lv_at hl 0 rfl) ?_
                  refine lv_iconst (v := 4) hx hb dX4_clear_98 (by decide) ?_
                  refine lv_icmp_ne (tgt := 112) hx hb dX4_clear_99 (by decide) (fun c_35 => ?_) (fun c_35 => ?_)
                  · skip
                    have ic_35 := iv_ne c_35
                    refine lv_aload_n hx hb dX4_clear_112 rfl (lv_at hl 2 rfl) ?_
                    refine lv_dup hx hb dX4_clear_113 rfl ?_
                    refine va_get (D := (dC, dI)) (ci := 6) (v := .int s17_49) (C := RX4) (T := TX4) (N := 6) hx hb hts hin_X4 hown hK hP 4 rfl rfl 4 (by decide) (hts (.fieldLink RX4 26 "BlockLog$Rows" "count" "I") (by decide +kernel)) (fun _ h9 => h9) rfl dX4_clear_114 ?_
                    refine lv_iconst (v := 1) hx hb dX4_clear_117 (by decide) ?_
                    refine lv_iadd hx hb dX4_clear_118 ?_
                    refine lv_topi (fun v_36 ev_36 => ?_)
                    have rg5 := iv_rng s17_49
                    have hv_36 : v_36.toInt = s17_49.toInt + 1 := by rw [ev_36]; exact (iv_add (by omega) (by omega)).trans (by omega)
                    clear ev_36
                    refine va_put (D := (dC, dI)) (ci := 6) (v := .int v_36) (ty := .int) (C := RX4) (T := TX4) (N := 6) hx hb hts hin_X4 tyX4 tyX4_ok nmX4 hown hK hP (cw_D hD) hS 4 rfl rfl 4 (by decide) (hts (.fieldLink RX4 26 "BlockLog$Rows" "count" "I") (by decide +kernel)) (fun _ h9 => h9) rfl (by decide +kernel) rfl rfl (Nat.le_of_ble_eq_true rfl) dX4_clear_119 (fun H locs hP _ hS => ?_)
                    have hP : va_P (dC, dI) vwCl (cw_W c kc (rU (rU st 17 v_36) 18 s18_49) lg (rU ai 8 f8_32) al R) H := hP
                    refine lv_goto (tgt := 49) hx hb dX4_clear_122 (by decide) ?_
                    exact ih49 v_36 s18_49 f8_32 _ _ _ (by omega) (by omega) (by omega) hP hS (lv_sub hl [1, 2] rfl)
                  · skip
                    have ic_35 := iv_eq c_35
                    refine lv_aload_n hx hb dX4_clear_102 rfl (lv_at hl 2 rfl) ?_
                    refine lv_dup hx hb dX4_clear_103 rfl ?_
                    refine va_get (D := (dC, dI)) (ci := 6) (v := .int s18_49) (C := RX4) (T := TX4) (N := 6) hx hb hts hin_X4 hown hK hP 4 rfl rfl 5 (by decide) (hts (.fieldLink RX4 29 "BlockLog$Rows" "bad" "I") (by decide +kernel)) (fun _ h9 => h9) rfl dX4_clear_104 ?_
                    refine lv_iconst (v := 1) hx hb dX4_clear_107 (by decide) ?_
                    refine lv_iadd hx hb dX4_clear_108 ?_
                    refine lv_topi (fun v_37 ev_37 => ?_)
                    clear ev_37
                    refine va_put (D := (dC, dI)) (ci := 6) (v := .int v_37) (ty := .int) (C := RX4) (T := TX4) (N := 6) hx hb hts hin_X4 tyX4 tyX4_ok nmX4 hown hK hP (cw_D hD) hS 4 rfl rfl 5 (by decide) (hts (.fieldLink RX4 29 "BlockLog$Rows" "bad" "I") (by decide +kernel)) (fun _ h9 => h9) rfl (by decide +kernel) rfl rfl (Nat.le_of_ble_eq_true rfl) dX4_clear_109 (fun H locs hP _ hS => ?_)
                    have hP : va_P (dC, dI) vwCl (cw_W c kc (rU (rU st 17 s17_49) 18 v_37) lg (rU ai 8 f8_32) al R) H := hP
                    refine lv_aload_n hx hb dX4_clear_112 rfl (lv_at hl 2 rfl) ?_
                    refine lv_dup hx hb dX4_clear_113 rfl ?_
                    refine va_get (D := (dC, dI)) (ci := 6) (v := .int s17_49) (C := RX4) (T := TX4) (N := 6) hx hb hts hin_X4 hown hK hP 4 rfl rfl 4 (by decide) (hts (.fieldLink RX4 26 "BlockLog$Rows" "count" "I") (by decide +kernel)) (fun _ h9 => h9) rfl dX4_clear_114 ?_
                    refine lv_iconst (v := 1) hx hb dX4_clear_117 (by decide) ?_
                    refine lv_iadd hx hb dX4_clear_118 ?_
                    refine lv_topi (fun v_38 ev_38 => ?_)
                    have rg6 := iv_rng s17_49
                    have hv_38 : v_38.toInt = s17_49.toInt + 1 := by rw [ev_38]; exact (iv_add (by omega) (by omega)).trans (by omega)
                    clear ev_38
                    refine va_put (D := (dC, dI)) (ci := 6) (v := .int v_38) (ty := .int) (C := RX4) (T := TX4) (N := 6) hx hb hts hin_X4 tyX4 tyX4_ok nmX4 hown hK hP (cw_D hD) hS 4 rfl rfl 4 (by decide) (hts (.fieldLink RX4 26 "BlockLog$Rows" "count" "I") (by decide +kernel)) (fun _ h9 => h9) rfl (by decide +kernel) rfl rfl (Nat.le_of_ble_eq_true rfl) dX4_clear_119 (fun H locs hP _ hS => ?_)
                    have hP : va_P (dC, dI) vwCl (cw_W c kc (rU (rU st 17 v_38) 18 v_37) lg (rU ai 8 f8_32) al R) H := hP
                    refine lv_goto (tgt := 49) hx hb dX4_clear_122 (by decide) ?_
                    exact ih49 v_38 v_37 f8_32 _ _ _ (by omega) (by omega) (by omega) hP hS (lv_sub hl [1, 2] rfl)
                · skip
                  have ic_34 := iv_eq c_34
                  refine lv_iconst (v := 1) hx hb dX4_clear_95 (by decide) ?_
                  exact W.zret hx hb hr rfl (fun t ht hW => ⟨⟨_, _, rfl, rfl, st 9, st 10, st 11, s17_49, s18_49, ai 7, f8_32, (by omega), (by omega), (by omega), (by omega), (by omega), (by omega), hR7, by rw [ht]; exact hP⟩, hS.F ht⟩) hS.2.2 dX4_clear_96
              · skip
                have ic_33 := iv_eq c_33
                refine lv_aload_n hx hb dX4_clear_73 rfl (lv_at hl 2 rfl) ?_
                refine va_get (D := (dC, dI)) (ci := 6) (v := .ref (c 102)) (C := RX4) (T := TX4) (N := 6) hx hb hts hin_X4 hown hK hP 4 rfl rfl 0 (by decide) (hts (.fieldLink RX4 9 "BlockLog$Rows" "disk" "LBlockLog$Disk;") (by decide +kernel)) (fun _ h9 => h9) rfl dX4_clear_74 ?_
                refine lv_aload_n hx hb dX4_clear_77 rfl (lv_at hl 2 rfl) ?_
                refine va_get (D := (dC, dI)) (ci := 6) (v := .int (st 15)) (C := RX4) (T := TX4) (N := 6) hx hb hts hin_X4 hown hK hP 4 rfl rfl 2 (by decide) (hts (.fieldLink RX4 19 "BlockLog$Rows" "area" "I") (by decide +kernel)) (fun _ h9 => h9) rfl dX4_clear_78 ?_
                refine lv_aload_n hx hb dX4_clear_81 rfl (lv_at hl 2 rfl) ?_
                refine va_get (D := (dC, dI)) (ci := 6) (v := .int s17_49) (C := RX4) (T := TX4) (N := 6) hx hb hts hin_X4 hown hK hP 4 rfl rfl 4 (by decide) (hts (.fieldLink RX4 26 "BlockLog$Rows" "count" "I") (by decide +kernel)) (fun _ h9 => h9) rfl dX4_clear_82 ?_
                refine lv_iconst (v := 1) hx hb dX4_clear_85 (by decide) ?_
                have hFc := vfree ((cw_D hD : va_D A (cw_W c kc (rU (rU st 17 s17_49) 18 s18_49) lg (rU ai 8 f8_32) al R)) : va_D A (cw_W c kc (rU (rU st 17 s17_49) 18 s18_49) lg (rU ai 8 f8_32) al R)) hS hA
                refine va_calli (va_runV (As := [.int (st 15), .int s17_49, .int (1 : Int32)]) (rest := []) ⟨hx, hb, hml, hown, hts⟩ (v_X1_eraseRows l dC dI c kc (rU (rU st 17 s17_49) 18 s18_49) lg (rU ai 8 f8_32) al R (st 15) s17_49 (1 : Int32) _ (show 0 ≤ (st 9).toInt by omega) (show (st 9).toInt ≤ 1 by omega) (by omega) (by omega) (by omega) (by omega) (by omega) (show aR (ai 7) 8224 (-128) 127 from hR7)) (cwV 3 hts gX4_clear_X1_eraseRows rfl rfl rfl (by decide +kernel) ⟨Nat.le_of_ble_eq_true rfl, Nat.le_of_ble_eq_true rfl⟩) ⟨fun a U g mk q => by obtain ⟨q0, q1, qP, qK, qD⟩ := q; exact ⟨q0, q1, qP, va_K.moved (u := U) (U := U.calling g mk a) (Vm.Alike.refl U.vm) qK, qD⟩, va_recv hK hP (ci := 3) (q := (RX1, TX1, 7)) rfl (q0 := 2) rfl, fun U hU hW => ⟨rfl, by rw [hU], by rw [hU]; exact hP, va_K.moved hW.alike hK, ((cw_D hD : va_D A (cw_W c kc (rU (rU st 17 s17_49) 18 s18_49) lg (rU ai 8 f8_32) al R))).weaken (fun _ _ _ _ => trivial)⟩⟩ rfl rfl hl.1 rfl (lv_room (Nat.le_of_ble_eq_true rfl)) dX4_clear_86 ⟨Nat.le_of_ble_eq_true rfl, Nat.le_of_ble_eq_true rfl⟩) hS (fun q _ h => hFc q h) hFc (fun r_39 ur_39 t H1 locs ht hvm er_39 hB hz1 hk1 hS => ?_)
                subst er_39
                obtain ⟨x9_39, x10_39, x11_39, f7_39, f8_39, k_40, k_41, k_42, k_43, hR7, hP1⟩ := hB
                rw [ht] at hP1
                clear hFc hz1 hk1 hvm hP
                subst ht
                have hP := hP1
                clear hP1
                generalize t.heap = H at hP hS ⊢
                have hP : va_P (dC, dI) vwCl (cw_W c kc (rU (rU (rU (rU (rU st 9 x9_39) 10 x10_39) 11 x11_39) 17 s17_49) 18 s18_49) lg (rU (rU ai 7 f7_39) 8 f8_39) al R) H := hP
                have k_42 : 0 ≤ x9_39.toInt := k_42
                have k_43 : x9_39.toInt ≤ 1 := k_43
                have hR7 : aR f7_39 8224 (-128) 127 := hR7
                rcases iv_01 (a := r_39) (by omega) (by omega) with b_44 | b_44
                · skip
                  have ib_44 := iv_eq b_44
                  rw [b_44]
                  exact W.zret hx hb hr rfl (fun t ht hW => ⟨⟨_, _, rfl, rfl, x9_39, x10_39, x11_39, s17_49, s18_49, f7_39, f8_39, (by omega), (by omega), (by omega), (by omega), (by omega), (by omega), hR7, by rw [ht]; exact hP⟩, hS.F ht⟩) hS.2.2 dX4_clear_89
                · skip
                  have ib_44 := iv_eq b_44
                  rw [b_44]
                  exact W.zret hx hb hr rfl (fun t ht hW => ⟨⟨_, _, rfl, rfl, x9_39, x10_39, x11_39, s17_49, s18_49, f7_39, f8_39, (by omega), (by omega), (by omega), (by omega), (by omega), (by omega), hR7, by rw [ht]; exact hP⟩, hS.F ht⟩) hS.2.2 dX4_clear_89
        exact loop49 ((128 - 0 : Int).toNat + 1) (0 : Int32) (0 : Int32) (ai 8) _ _ _ (by omega) (by omega) (by omega) hP hS (lv_sub hl [0, 1] rfl)
      · skip
        have ic_30 := iv_eq c_30
        exfalso
        omega
  exact main s.heap [] hP hS

set_option maxHeartbeats 4000000 in
set_option maxRecDepth 100000 in
theorem v_X4_countBad (l : Launch) (dC : Nat → ClassId) (dI : Nat → Nat → Nat) (c : Nat → Nat) (kc : Nat → ClassId) (st : Nat → Int32) (lg : Nat → Int64) (ai : Nat → Nat → Int32) (al : Nat → Nat → Int64) (R : va_W)  (sz : Nat) (hf15a : 0 ≤ (st 15).toInt) (hf15b : (st 15).toInt ≤ 1) (hf17a : 0 ≤ (st 17).toInt) (hf17b : (st 17).toInt ≤ 128) : Met l yX4_countBad wsX4_countBad ({ frames := 5, cells := 0, slots := 0, locals := 120 }) (va_Pc [.ref (c 104)] (fun U => U.heap.size = sz ∧ va_P (dC, dI) vwCl (cw_W c kc st lg ai al R) U.heap ∧ va_K (dC, dI) vwCl (cw_T kc) U ∧ va_D (fun _ => True) (cw_W c kc st lg ai al R))) (va_Qi (fun r (u : Int32) => r = u) (fun u t => ∃ (f8 : Nat → Int32), va_P (dC, dI) vwCl (cw_W c kc st lg (rU ai 8 f8) al R) t.heap) (va_A (cw_W c kc st lg ai al R) sz)) 0 0 (va_A (cw_W c kc st lg ai al R) sz) := by
  refine Met.ofW (cc := cX4_countBad) (maxL := 3) (ret := (some .int)) (by decide) rfl ?_
  intro p e s m args below meth cM s₁ B hml hv
  obtain ⟨rfl, hsz, hP, hK, hD0⟩ := hv
  have hx := B.exec
  have hb := B.bytes
  have hr := B.returns
  have hts := atoms_spec (ws := wsX4_countBad) B.pre
  have hown : s.vm.findClass RX4 = some m.cls := findClass_of_methodNamed B.named
  subst hsz
  have hD := hD0.self (sz := s.heap.size)
  generalize hAe : va_A (cw_W c kc st lg ai al R) s.heap.size = A at hD ⊢
  have hA : ∀ q : Nat, s.heap.size ≤ q → A q := fun q h => by rw [← hAe]; exact Or.inr h
  have hS : va_S A s.heap s.heap [] := va_S.rf
  clear hAe hD0
  have hl := lv_entry ([.ref (c 104)]) (n := 3) (Nat.le_of_ble_eq_true rfl)
  rw [lg_entry_eq]
  generalize (lg_sl ([.ref (c 104)]) ++ List.replicate (3 - (lg_sl ([.ref (c 104)])).length) Slot.unset).toArray = ls at hl ⊢
  have hl : lv_has ls 3 [(0, .ref (c 104))] := hl
  have z_0 : (0 : Int32).toInt = 0 := by decide
  have z_1 : (1 : Int32).toInt = 1 := by decide
  have z_4 : (4 : Int32).toInt = 4 := by decide
  have hin_X4 : ∀ w ∈ u_ws RX4 TX4 6, w ∈ wsX4_countBad := by decide +kernel
  have main : ∀ (H : Heap) (locs : List Loc), va_P (dC, dI) vwCl (cw_W c kc st lg ai al R) H → va_S A s.heap H locs → W p l e (headSpec wsX4_countBad ({ frames := 5, cells := 0, slots := 0, locals := 120 })).room s m ([.ref (c 104)] : List Value).toArray below meth cM H locs 0 0 (MQ below (va_Qi (fun r (u : Int32) => r = u) (fun u t => ∃ (f8 : Nat → Int32), va_P (dC, dI) vwCl (cw_W c kc st lg (rU ai 8 f8) al R) t.heap) A) ([.ref (c 104)] : List Value).toArray s 0 0 A) (F0 m 0 ls []) := by
    intro H locs hP hS
    refine lv_iconst (v := 0) hx hb dX4_countBad_0 (by decide) ?_
    refine lv_istore_n (lv' := [(1, .int (0 : Int32)), (0, .ref (c 104))]) hx hb dX4_countBad_1 rfl hl (by decide) rfl (fun ls hl => ?_)
    refine lv_iconst (v := 0) hx hb dX4_countBad_2 (by decide) ?_
    refine lv_istore_n (lv' := [(2, .int (0 : Int32)), (1, .int (0 : Int32)), (0, .ref (c 104))]) hx hb dX4_countBad_3 rfl hl (by decide) rfl (fun ls hl => ?_)
    have loop4 : ∀ (n : Nat) (l2_4 : Int32) (l1_4 : Int32) (a8_4 : Nat → Int32) (H : Heap) (locs : List Loc) (ls : Array Slot), (0 ≤ l2_4.toInt) → (l2_4.toInt ≤ (st 17).toInt) → (0 ≤ l1_4.toInt) → (l1_4.toInt ≤ l2_4.toInt) → ((st 17).toInt - l2_4.toInt : Int).toNat < n → va_P (dC, dI) vwCl (cw_W c kc st lg (rU ai 8 a8_4) al R) H → va_S A s.heap H locs → lv_has ls 3 [(2, .int l2_4), (1, .int l1_4), (0, .ref (c 104))] → W p l e (headSpec wsX4_countBad ({ frames := 5, cells := 0, slots := 0, locals := 120 })).room s m ([.ref (c 104)] : List Value).toArray below meth cM H locs 0 0 (MQ below (va_Qi (fun r (u : Int32) => r = u) (fun u t => ∃ (f8 : Nat → Int32), va_P (dC, dI) vwCl (cw_W c kc st lg (rU ai 8 f8) al R) t.heap) A) ([.ref (c 104)] : List Value).toArray s 0 0 A) (F0 m 4 ls []) := by
      intro n
      induction n with
      | zero => intro l2_4 l1_4 a8_4 H locs ls if0_4 if1_4 if2_4 if3_4 hm; exact absurd hm (Nat.not_lt_zero _)
      | succ n ih4 =>
        intro l2_4 l1_4 a8_4 H locs ls if0_4 if1_4 if2_4 if3_4 hm4 hP hS hl
        refine lv_iload_n hx hb dX4_countBad_4 rfl (lv_at hl 0 rfl) ?_
        refine lv_aload_n hx hb dX4_countBad_5 rfl (lv_at hl 2 rfl) ?_
        refine va_get (D := (dC, dI)) (ci := 6) (v := .int (st 17)) (C := RX4) (T := TX4) (N := 6) hx hb hts hin_X4 hown hK hP 4 rfl rfl 4 (by decide) (hts (.fieldLink RX4 26 "BlockLog$Rows" "count" "I") (by decide +kernel)) (fun _ h9 => h9) rfl dX4_countBad_6 ?_
        refine lv_icmp_ge (tgt := 30) hx hb dX4_countBad_9 (by decide) (fun c_1 => ?_) (fun c_1 => ?_)
        · skip
          have ic_1 := iv_le c_1
          refine lv_iload_n hx hb dX4_countBad_30 rfl (lv_at hl 1 rfl) ?_
          exact W.iret hx hb hr (fun t ht hW => ⟨⟨_, _, rfl, rfl, a8_4, by rw [ht]; exact hP⟩, hS.F ht⟩) hS.2.2 dX4_countBad_31
        · skip
          have ic_1 := iv_nle c_1
          refine lv_aload_n hx hb dX4_countBad_12 rfl (lv_at hl 2 rfl) ?_
          refine lv_iload_n hx hb dX4_countBad_13 rfl (lv_at hl 0 rfl) ?_
          have hFc := vfree ((cw_D hD : va_D A (cw_W c kc st lg (rU ai 8 a8_4) al R)) : va_D A (cw_W c kc st lg (rU ai 8 a8_4) al R)) hS hA
          refine va_calli (va_runV (As := [.int l2_4]) (rest := []) ⟨hx, hb, hml, hown, hts⟩ (v_X4_state l dC dI c kc st lg (rU ai 8 a8_4) al R l2_4 _ (show 0 ≤ (st 15).toInt by omega) (show (st 15).toInt ≤ 1 by omega) (by omega) (by omega)) (cwV 1 hts gX4_countBad_X4_state rfl rfl rfl (by decide +kernel) ⟨Nat.le_of_ble_eq_true rfl, Nat.le_of_ble_eq_true rfl⟩) ⟨fun a U g mk q => by obtain ⟨q0, q1, qP, qK, qD⟩ := q; exact ⟨q0, q1, qP, va_K.moved (u := U) (U := U.calling g mk a) (Vm.Alike.refl U.vm) qK, qD⟩, va_recv hK hP (ci := 6) (q := (RX4, TX4, 6)) rfl (q0 := 4) rfl, fun U hU hW => ⟨rfl, by rw [hU], by rw [hU]; exact hP, va_K.moved hW.alike hK, ((cw_D hD : va_D A (cw_W c kc st lg (rU ai 8 a8_4) al R))).weaken (fun _ _ _ _ => trivial)⟩⟩ rfl rfl hl.1 rfl (lv_room (Nat.le_of_ble_eq_true rfl)) dX4_countBad_14 ⟨Nat.le_of_ble_eq_true rfl, Nat.le_of_ble_eq_true rfl⟩) hS (fun q _ h => hFc q h) hFc (fun r_2 ur_2 t H1 locs ht hvm er_2 hB hz1 hk1 hS => ?_)
          subst er_2
          obtain ⟨f8_2, hP1⟩ := hB
          rw [ht] at hP1
          clear hFc hz1 hk1 hvm hP
          subst ht
          have hP := hP1
          clear hP1
          generalize t.heap = H at hP hS ⊢
          have hP : va_P (dC, dI) vwCl (cw_W c kc st lg (rU ai 8 f8_2) al R) H := hP
          refine lv_iconst (v := 4) hx hb dX4_countBad_17 (by decide) ?_
          refine lv_icmp_ne (tgt := 24) hx hb dX4_countBad_18 (by decide) (fun c_3 => ?_) (fun c_3 => ?_)
          · skip
            have ic_3 := iv_ne c_3
            obtain ⟨x_4, ex_4⟩ : ∃ z : Int32, z = l2_4 + (1) := ⟨_, rfl⟩
            refine lv_iinc (v := x_4) (lv' := [(2, .int x_4), (1, .int l1_4), (0, .ref (c 104))]) hx hb dX4_countBad_24 hl (k := 0) rfl (by rw [ex_4]; rfl) (by decide) rfl (fun ls hl => ?_)
            have rg1 := iv_rng l2_4
            have hx_4 : x_4.toInt = l2_4.toInt + (1) := by rw [ex_4]; exact (iv_add (by omega) (by omega)).trans (by omega)
            clear ex_4
            refine lv_goto (tgt := 4) hx hb dX4_countBad_27 (by decide) ?_
            exact ih4 x_4 l1_4 f8_2 _ _ _ (by omega) (by omega) (by omega) (by omega) (by omega) hP hS (lv_sub hl [0, 1, 2] rfl)
          · skip
            have ic_3 := iv_eq c_3
            obtain ⟨x_5, ex_5⟩ : ∃ z : Int32, z = l1_4 + (1) := ⟨_, rfl⟩
            refine lv_iinc (v := x_5) (lv' := [(1, .int x_5), (2, .int l2_4), (0, .ref (c 104))]) hx hb dX4_countBad_21 hl (k := 1) rfl (by rw [ex_5]; rfl) (by decide) rfl (fun ls hl => ?_)
            have rg2 := iv_rng l1_4
            have hx_5 : x_5.toInt = l1_4.toInt + (1) := by rw [ex_5]; exact (iv_add (by omega) (by omega)).trans (by omega)
            clear ex_5
            obtain ⟨x_6, ex_6⟩ : ∃ z : Int32, z = l2_4 + (1) := ⟨_, rfl⟩
            refine lv_iinc (v := x_6) (lv' := [(2, .int x_6), (1, .int x_5), (0, .ref (c 104))]) hx hb dX4_countBad_24 hl (k := 1) rfl (by rw [ex_6]; rfl) (by decide) rfl (fun ls hl => ?_)
            have rg3 := iv_rng l2_4
            have hx_6 : x_6.toInt = l2_4.toInt + (1) := by rw [ex_6]; exact (iv_add (by omega) (by omega)).trans (by omega)
            clear ex_6
            refine lv_goto (tgt := 4) hx hb dX4_countBad_27 (by decide) ?_
            exact ih4 x_6 x_5 f8_2 _ _ _ (by omega) (by omega) (by omega) (by omega) (by omega) hP hS (lv_sub hl [0, 1, 2] rfl)
    exact loop4 (((st 17).toInt - 0 : Int).toNat + 1) (0 : Int32) (0 : Int32) (ai 8) _ _ _ (by omega) (by omega) (by omega) (by omega) (by omega) hP hS (lv_sub hl [0, 1, 2] rfl)
  exact main s.heap [] hP hS

set_option maxHeartbeats 4000000 in
set_option maxRecDepth 100000 in
theorem v_X4_badRow (l : Launch) (dC : Nat → ClassId) (dI : Nat → Nat → Nat) (c : Nat → Nat) (kc : Nat → ClassId) (st : Nat → Int32) (lg : Nat → Int64) (ai : Nat → Nat → Int32) (al : Nat → Nat → Int64) (R : va_W) (p0 : Int32) (sz : Nat) (hf15a : 0 ≤ (st 15).toInt) (hf15b : (st 15).toInt ≤ 1) (hf17a : 0 ≤ (st 17).toInt) (hf17b : (st 17).toInt ≤ 128) : Met l yX4_badRow wsX4_badRow ({ frames := 5, cells := 0, slots := 0, locals := 120 }) (va_Pc [.ref (c 104), .int p0] (fun U => U.heap.size = sz ∧ va_P (dC, dI) vwCl (cw_W c kc st lg ai al R) U.heap ∧ va_K (dC, dI) vwCl (cw_T kc) U ∧ va_D (fun _ => True) (cw_W c kc st lg ai al R))) (va_Qi (fun r (u : Int32) => r = u) (fun u t => ∃ (f8 : Nat → Int32), (-1 ≤ u.toInt) ∧ (u.toInt ≤ 127) ∧ va_P (dC, dI) vwCl (cw_W c kc st lg (rU ai 8 f8) al R) t.heap) (va_A (cw_W c kc st lg ai al R) sz)) 0 0 (va_A (cw_W c kc st lg ai al R) sz) := by
  refine Met.ofW (cc := cX4_badRow) (maxL := 4) (ret := (some .int)) (by decide) rfl ?_
  intro p e s m args below meth cM s₁ B hml hv
  obtain ⟨rfl, hsz, hP, hK, hD0⟩ := hv
  have hx := B.exec
  have hb := B.bytes
  have hr := B.returns
  have hts := atoms_spec (ws := wsX4_badRow) B.pre
  have hown : s.vm.findClass RX4 = some m.cls := findClass_of_methodNamed B.named
  subst hsz
  have hD := hD0.self (sz := s.heap.size)
  generalize hAe : va_A (cw_W c kc st lg ai al R) s.heap.size = A at hD ⊢
  have hA : ∀ q : Nat, s.heap.size ≤ q → A q := fun q h => by rw [← hAe]; exact Or.inr h
  have hS : va_S A s.heap s.heap [] := va_S.rf
  clear hAe hD0
  have hl := lv_entry ([.ref (c 104), .int p0]) (n := 4) (Nat.le_of_ble_eq_true rfl)
  rw [lg_entry_eq]
  generalize (lg_sl ([.ref (c 104), .int p0]) ++ List.replicate (4 - (lg_sl ([.ref (c 104), .int p0])).length) Slot.unset).toArray = ls at hl ⊢
  have hl : lv_has ls 4 [(0, .ref (c 104)), (1, .int p0)] := hl
  have z_m1 : (-1 : Int32).toInt = -1 := by decide
  have z_0 : (0 : Int32).toInt = 0 := by decide
  have z_1 : (1 : Int32).toInt = 1 := by decide
  have z_4 : (4 : Int32).toInt = 4 := by decide
  have hin_X4 : ∀ w ∈ u_ws RX4 TX4 6, w ∈ wsX4_badRow := by decide +kernel
  have main : ∀ (H : Heap) (locs : List Loc), va_P (dC, dI) vwCl (cw_W c kc st lg ai al R) H → va_S A s.heap H locs → W p l e (headSpec wsX4_badRow ({ frames := 5, cells := 0, slots := 0, locals := 120 })).room s m ([.ref (c 104), .int p0] : List Value).toArray below meth cM H locs 0 0 (MQ below (va_Qi (fun r (u : Int32) => r = u) (fun u t => ∃ (f8 : Nat → Int32), (-1 ≤ u.toInt) ∧ (u.toInt ≤ 127) ∧ va_P (dC, dI) vwCl (cw_W c kc st lg (rU ai 8 f8) al R) t.heap) A) ([.ref (c 104), .int p0] : List Value).toArray s 0 0 A) (F0 m 0 ls []) := by
    intro H locs hP hS
    refine lv_iconst (v := 0) hx hb dX4_badRow_0 (by decide) ?_
    refine lv_istore_n (lv' := [(2, .int (0 : Int32)), (0, .ref (c 104)), (1, .int p0)]) hx hb dX4_badRow_1 rfl hl (by decide) rfl (fun ls hl => ?_)
    refine lv_iconst (v := 0) hx hb dX4_badRow_2 (by decide) ?_
    refine lv_istore_n (lv' := [(3, .int (0 : Int32)), (2, .int (0 : Int32)), (0, .ref (c 104)), (1, .int p0)]) hx hb dX4_badRow_3 rfl hl (by decide) rfl (fun ls hl => ?_)
    have loop4 : ∀ (n : Nat) (l3_4 : Int32) (l2_4 : Int32) (a8_4 : Nat → Int32) (H : Heap) (locs : List Loc) (ls : Array Slot), (0 ≤ l3_4.toInt) → (l3_4.toInt ≤ (st 17).toInt) → (0 ≤ l2_4.toInt) → (l2_4.toInt ≤ l3_4.toInt) → ((st 17).toInt - l3_4.toInt : Int).toNat < n → va_P (dC, dI) vwCl (cw_W c kc st lg (rU ai 8 a8_4) al R) H → va_S A s.heap H locs → lv_has ls 4 [(3, .int l3_4), (2, .int l2_4), (0, .ref (c 104)), (1, .int p0)] → W p l e (headSpec wsX4_badRow ({ frames := 5, cells := 0, slots := 0, locals := 120 })).room s m ([.ref (c 104), .int p0] : List Value).toArray below meth cM H locs 0 0 (MQ below (va_Qi (fun r (u : Int32) => r = u) (fun u t => ∃ (f8 : Nat → Int32), (-1 ≤ u.toInt) ∧ (u.toInt ≤ 127) ∧ va_P (dC, dI) vwCl (cw_W c kc st lg (rU ai 8 f8) al R) t.heap) A) ([.ref (c 104), .int p0] : List Value).toArray s 0 0 A) (F0 m 4 ls []) := by
      intro n
      induction n with
      | zero => intro l3_4 l2_4 a8_4 H locs ls if0_4 if1_4 if2_4 if3_4 hm; exact absurd hm (Nat.not_lt_zero _)
      | succ n ih4 =>
        intro l3_4 l2_4 a8_4 H locs ls if0_4 if1_4 if2_4 if3_4 hm4 hP hS hl
        refine lv_iload_n hx hb dX4_badRow_4 rfl (lv_at hl 0 rfl) ?_
        refine lv_aload_n hx hb dX4_badRow_5 rfl (lv_at hl 2 rfl) ?_
        refine va_get (D := (dC, dI)) (ci := 6) (v := .int (st 17)) (C := RX4) (T := TX4) (N := 6) hx hb hts hin_X4 hown hK hP 4 rfl rfl 4 (by decide) (hts (.fieldLink RX4 26 "BlockLog$Rows" "count" "I") (by decide +kernel)) (fun _ h9 => h9) rfl dX4_badRow_6 ?_
        refine lv_icmp_ge (tgt := 37) hx hb dX4_badRow_9 (by decide) (fun c_1 => ?_) (fun c_1 => ?_)
        · skip
          have ic_1 := iv_le c_1
          refine lv_iconst (v := (-1)) hx hb dX4_badRow_37 (by decide) ?_
          exact W.iret hx hb hr (fun t ht hW => ⟨⟨_, _, rfl, rfl, a8_4, (by omega), (by omega), by rw [ht]; exact hP⟩, hS.F ht⟩) hS.2.2 dX4_badRow_38
        · skip
          have ic_1 := iv_nle c_1
          refine lv_aload_n hx hb dX4_badRow_12 rfl (lv_at hl 2 rfl) ?_
          refine lv_iload_n hx hb dX4_badRow_13 rfl (lv_at hl 0 rfl) ?_
          have hFc := vfree ((cw_D hD : va_D A (cw_W c kc st lg (rU ai 8 a8_4) al R)) : va_D A (cw_W c kc st lg (rU ai 8 a8_4) al R)) hS hA
          refine va_calli (va_runV (As := [.int l3_4]) (rest := []) ⟨hx, hb, hml, hown, hts⟩ (v_X4_state l dC dI c kc st lg (rU ai 8 a8_4) al R l3_4 _ (show 0 ≤ (st 15).toInt by omega) (show (st 15).toInt ≤ 1 by omega) (by omega) (by omega)) (cwV 1 hts gX4_badRow_X4_state rfl rfl rfl (by decide +kernel) ⟨Nat.le_of_ble_eq_true rfl, Nat.le_of_ble_eq_true rfl⟩) ⟨fun a U g mk q => by obtain ⟨q0, q1, qP, qK, qD⟩ := q; exact ⟨q0, q1, qP, va_K.moved (u := U) (U := U.calling g mk a) (Vm.Alike.refl U.vm) qK, qD⟩, va_recv hK hP (ci := 6) (q := (RX4, TX4, 6)) rfl (q0 := 4) rfl, fun U hU hW => ⟨rfl, by rw [hU], by rw [hU]; exact hP, va_K.moved hW.alike hK, ((cw_D hD : va_D A (cw_W c kc st lg (rU ai 8 a8_4) al R))).weaken (fun _ _ _ _ => trivial)⟩⟩ rfl rfl hl.1 rfl (lv_room (Nat.le_of_ble_eq_true rfl)) dX4_badRow_14 ⟨Nat.le_of_ble_eq_true rfl, Nat.le_of_ble_eq_true rfl⟩) hS (fun q _ h => hFc q h) hFc (fun r_2 ur_2 t H1 locs ht hvm er_2 hB hz1 hk1 hS => ?_)
          subst er_2
          obtain ⟨f8_2, hP1⟩ := hB
          rw [ht] at hP1
          clear hFc hz1 hk1 hvm hP
          subst ht
          have hP := hP1
          clear hP1
          generalize t.heap = H at hP hS ⊢
          have hP : va_P (dC, dI) vwCl (cw_W c kc st lg (rU ai 8 f8_2) al R) H := hP
          refine lv_iconst (v := 4) hx hb dX4_badRow_17 (by decide) ?_
          refine lv_icmp_ne (tgt := 31) hx hb dX4_badRow_18 (by decide) (fun c_3 => ?_) (fun c_3 => ?_)
          · skip
            have ic_3 := iv_ne c_3
            obtain ⟨x_4, ex_4⟩ : ∃ z : Int32, z = l3_4 + (1) := ⟨_, rfl⟩
            refine lv_iinc (v := x_4) (lv' := [(3, .int x_4), (2, .int l2_4), (0, .ref (c 104)), (1, .int p0)]) hx hb dX4_badRow_31 hl (k := 0) rfl (by rw [ex_4]; rfl) (by decide) rfl (fun ls hl => ?_)
            have rg1 := iv_rng l3_4
            have hx_4 : x_4.toInt = l3_4.toInt + (1) := by rw [ex_4]; exact (iv_add (by omega) (by omega)).trans (by omega)
            clear ex_4
            refine lv_goto (tgt := 4) hx hb dX4_badRow_34 (by decide) ?_
            exact ih4 x_4 l2_4 f8_2 _ _ _ (by omega) (by omega) (by omega) (by omega) (by omega) hP hS (lv_sub hl [0, 1, 2, 3] rfl)
          · skip
            have ic_3 := iv_eq c_3
            refine lv_iload_n hx hb dX4_badRow_21 rfl (lv_at hl 1 rfl) ?_
            refine lv_iload_n hx hb dX4_badRow_22 rfl (lv_at hl 3 rfl) ?_
            refine lv_icmp_ne (tgt := 28) hx hb dX4_badRow_23 (by decide) (fun c_5 => ?_) (fun c_5 => ?_)
            · skip
              have ic_5 := iv_ne c_5
              obtain ⟨x_6, ex_6⟩ : ∃ z : Int32, z = l2_4 + (1) := ⟨_, rfl⟩
              refine lv_iinc (v := x_6) (lv' := [(2, .int x_6), (3, .int l3_4), (0, .ref (c 104)), (1, .int p0)]) hx hb dX4_badRow_28 hl (k := 1) rfl (by rw [ex_6]; rfl) (by decide) rfl (fun ls hl => ?_)
              have rg2 := iv_rng l2_4
              have hx_6 : x_6.toInt = l2_4.toInt + (1) := by rw [ex_6]; exact (iv_add (by omega) (by omega)).trans (by omega)
              clear ex_6
              obtain ⟨x_7, ex_7⟩ : ∃ z : Int32, z = l3_4 + (1) := ⟨_, rfl⟩
              refine lv_iinc (v := x_7) (lv' := [(3, .int x_7), (2, .int x_6), (0, .ref (c 104)), (1, .int p0)]) hx hb dX4_badRow_31 hl (k := 1) rfl (by rw [ex_7]; rfl) (by decide) rfl (fun ls hl => ?_)
              have rg3 := iv_rng l3_4
              have hx_7 : x_7.toInt = l3_4.toInt + (1) := by rw [ex_7]; exact (iv_add (by omega) (by omega)).trans (by omega)
              clear ex_7
              refine lv_goto (tgt := 4) hx hb dX4_badRow_34 (by decide) ?_
              exact ih4 x_7 x_6 f8_2 _ _ _ (by omega) (by omega) (by omega) (by omega) (by omega) hP hS (lv_sub hl [0, 1, 2, 3] rfl)
            · skip
              have ic_5 := iv_eq c_5
              refine lv_iload_n hx hb dX4_badRow_26 rfl (lv_at hl 0 rfl) ?_
              exact W.iret hx hb hr (fun t ht hW => ⟨⟨_, _, rfl, rfl, f8_2, (by omega), (by omega), by rw [ht]; exact hP⟩, hS.F ht⟩) hS.2.2 dX4_badRow_27
    exact loop4 (((st 17).toInt - 0 : Int).toNat + 1) (0 : Int32) (0 : Int32) (ai 8) _ _ _ (by omega) (by omega) (by omega) (by omega) (by omega) hP hS (lv_sub hl [0, 1, 2, 3] rfl)
  exact main s.heap [] hP hS
