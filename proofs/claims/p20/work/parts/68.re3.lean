set_option maxHeartbeats 4000000 in
set_option maxRecDepth 100000 in
theorem v_X9_prune (l : Launch) (dC : Nat → ClassId) (dI : Nat → Nat → Nat) (o : Nat) (c : Nat → Nat) (kc : Nat → ClassId) (st : Nat → Int32) (lg : Nat → Int64) (ai : Nat → Nat → Int32) (al : Nat → Nat → Int64) (p0 : Int32) (sz : Nat) (hf1a : 1 ≤ (st 1).toInt) (hf1b : (st 1).toInt ≤ 65536) (hf3a : 0 ≤ (st 3).toInt) (hf3b : (st 3).toInt ≤ 1) (hf6a : 0 ≤ (st 6).toInt) (hf6b : (st 6).toInt ≤ 1) (hf7a : 0 ≤ (st 7).toInt) (hf7b : (st 7).toInt ≤ 1) (hf12a : 0 ≤ (st 12).toInt) (hf12b : (st 12).toInt ≤ 8) (hf15a : 0 ≤ (st 15).toInt) (hf15b : (st 15).toInt ≤ 128) (hf16a : 0 ≤ (st 16).toInt) (hf16b : (st 16).toInt ≤ 128) (hf17a : 0 ≤ (st 17).toInt) (hf17b : (st 17).toInt ≤ 1) (hf21a : -1 ≤ (st 21).toInt) (hf21b : (st 21).toInt ≤ 127) (hf22a : 0 ≤ (st 22).toInt) (hf22b : (st 22).toInt ≤ 1000000) (hf24a : 0 ≤ (st 24).toInt) (hf24b : (st 24).toInt ≤ 1) (hf26a : 0 ≤ (st 26).toInt) (hf26b : (st 26).toInt ≤ 2000000) (hf30a : 0 ≤ (st 30).toInt) (hf30b : (st 30).toInt ≤ 128) (hf32a : 0 ≤ (st 32).toInt) (hf32b : (st 32).toInt ≤ 128) (hR25 : aR (ai 25) 130 (0) 127) (hR31 : aR (ai 31) 128 (0) 127) : Met l yX9_prune wsX9_prune ({ frames := 8, cells := 0, slots := 0, locals := 181 }) (va_Pc [.ref o, .int p0] (fun U => U.heap.size = sz ∧ va_P (dC, dI) vwCl (rw_W o c kc st lg ai al) U.heap ∧ va_K (dC, dI) vwCl (rw_T kc) U ∧ va_D (fun _ => True) (rw_W o c kc st lg ai al))) (va_Qi (fun r (u : Int32) => r = u) (fun u t => ∃ (x3 : Int32) (x4 : Int32) (x5 : Int32) (x6 : Int32) (x7 : Int32) (x12 : Int32) (x13 : Int32) (x15 : Int32) (x16 : Int32) (x17 : Int32) (x21 : Int32) (x22 : Int32) (x24 : Int32) (x26 : Int32) (x30 : Int32) (x32 : Int32) (y23 : Int64) (y27 : Int64) (f0 : Nat → Int32) (f14 : Nat → Int32) (f19 : Nat → Int32) (f20 : Nat → Int32) (f25 : Nat → Int32) (f31 : Nat → Int32) (g18 : Nat → Int64) (g28 : Nat → Int64) (g29 : Nat → Int64), (0 ≤ x3.toInt) ∧ (x3.toInt ≤ 1) ∧ (0 ≤ x6.toInt) ∧ (x6.toInt ≤ 1) ∧ (0 ≤ x7.toInt) ∧ (x7.toInt ≤ 1) ∧ (0 ≤ x12.toInt) ∧ (x12.toInt ≤ 8) ∧ (0 ≤ x15.toInt) ∧ (x15.toInt ≤ 128) ∧ (0 ≤ x16.toInt) ∧ (x16.toInt ≤ 128) ∧ (0 ≤ x17.toInt) ∧ (x17.toInt ≤ 1) ∧ (-1 ≤ x21.toInt) ∧ (x21.toInt ≤ 127) ∧ (0 ≤ x22.toInt) ∧ (x22.toInt ≤ 1000000) ∧ (0 ≤ x24.toInt) ∧ (x24.toInt ≤ 1) ∧ (0 ≤ x26.toInt) ∧ (x26.toInt ≤ 2000000) ∧ (0 ≤ x30.toInt) ∧ (x30.toInt ≤ 128) ∧ (0 ≤ x32.toInt) ∧ (x32.toInt ≤ 128) ∧ (aR f25 130 (0) 127) ∧ (aR f31 128 (0) 127) ∧ va_P (dC, dI) vwCl (rw_W o c kc (rU (rU (rU (rU (rU (rU (rU (rU (rU (rU (rU (rU (rU (rU (rU (rU st 3 x3) 4 x4) 5 x5) 6 x6) 7 x7) 12 x12) 13 x13) 15 x15) 16 x16) 17 x17) 21 x21) 22 x22) 24 x24) 26 x26) 30 x30) 32 x32) (rU (rU lg 23 y23) 27 y27) (rU (rU (rU (rU (rU (rU ai 0 f0) 14 f14) 19 f19) 20 f20) 25 f25) 31 f31) (rU (rU (rU al 18 g18) 28 g28) 29 g29)) t.heap) (va_A (rw_W o c kc st lg ai al) sz)) 0 0 (va_A (rw_W o c kc st lg ai al) sz) := by
  refine Met.ofW (cc := cX9_prune) (maxL := 10) (ret := (some .int)) (by decide) rfl ?_
  intro p e s m args below meth cM s₁ B hml hv
  obtain ⟨rfl, hsz, hP, hK, hD0⟩ := hv
  have hx := B.exec
  have hb := B.bytes
  have hr := B.returns
  have hts := atoms_spec (ws := wsX9_prune) B.pre
  have hown : s.vm.findClass RX9 = some m.cls := findClass_of_methodNamed B.named
  subst hsz
  have hD := hD0.self (sz := s.heap.size)
  generalize hAe : va_A (rw_W o c kc st lg ai al) s.heap.size = A at hD ⊢
  have hA : ∀ q : Nat, s.heap.size ≤ q → A q := fun q h => by rw [← hAe]; exact Or.inr h
  have hS : va_S A s.heap s.heap [] := va_S.rf
  clear hAe hD0
  have hl := lv_entry ([.ref o, .int p0]) (n := 10) (Nat.le_of_ble_eq_true rfl)
  rw [lg_entry_eq]
  generalize (lg_sl ([.ref o, .int p0]) ++ List.replicate (10 - (lg_sl ([.ref o, .int p0])).length) Slot.unset).toArray = ls at hl ⊢
  have hl : lv_has ls 10 [(0, .ref o), (1, .int p0)] := hl
  have z_m4 : (-4 : Int32).toInt = -4 := by decide
  have z_m3 : (-3 : Int32).toInt = -3 := by decide
  have z_m2 : (-2 : Int32).toInt = -2 := by decide
  have z_0 : (0 : Int32).toInt = 0 := by decide
  have z_1 : (1 : Int32).toInt = 1 := by decide
  have z_2 : (2 : Int32).toInt = 2 := by decide
  have z_3 : (3 : Int32).toInt = 3 := by decide
  have z_5 : (5 : Int32).toInt = 5 := by decide
  have z_16 : (16 : Int32).toInt = 16 := by decide
  have z_31 : (31 : Int32).toInt = 31 := by decide
  have z_32 : (32 : Int32).toInt = 32 := by decide
  have z_128 : (128 : Int32).toInt = 128 := by decide
  have z_165 : (165 : Int32).toInt = 165 := by decide
  have z_4096 : (4096 : Int32).toInt = 4096 := by decide
  have hin9 : ∀ w ∈ u_ws RX9 TX9 38, w ∈ wsX9_prune := by decide +kernel
  have main : ∀ (H : Heap) (locs : List Loc), va_P (dC, dI) vwCl (rw_W o c kc st lg ai al) H → va_S A s.heap H locs → W p l e (headSpec wsX9_prune ({ frames := 8, cells := 0, slots := 0, locals := 181 })).room s m ([.ref o, .int p0] : List Value).toArray below meth cM H locs 0 0 (MQ below (va_Qi (fun r (u : Int32) => r = u) (fun u t => ∃ (x3 : Int32) (x4 : Int32) (x5 : Int32) (x6 : Int32) (x7 : Int32) (x12 : Int32) (x13 : Int32) (x15 : Int32) (x16 : Int32) (x17 : Int32) (x21 : Int32) (x22 : Int32) (x24 : Int32) (x26 : Int32) (x30 : Int32) (x32 : Int32) (y23 : Int64) (y27 : Int64) (f0 : Nat → Int32) (f14 : Nat → Int32) (f19 : Nat → Int32) (f20 : Nat → Int32) (f25 : Nat → Int32) (f31 : Nat → Int32) (g18 : Nat → Int64) (g28 : Nat → Int64) (g29 : Nat → Int64), (0 ≤ x3.toInt) ∧ (x3.toInt ≤ 1) ∧ (0 ≤ x6.toInt) ∧ (x6.toInt ≤ 1) ∧ (0 ≤ x7.toInt) ∧ (x7.toInt ≤ 1) ∧ (0 ≤ x12.toInt) ∧ (x12.toInt ≤ 8) ∧ (0 ≤ x15.toInt) ∧ (x15.toInt ≤ 128) ∧ (0 ≤ x16.toInt) ∧ (x16.toInt ≤ 128) ∧ (0 ≤ x17.toInt) ∧ (x17.toInt ≤ 1) ∧ (-1 ≤ x21.toInt) ∧ (x21.toInt ≤ 127) ∧ (0 ≤ x22.toInt) ∧ (x22.toInt ≤ 1000000) ∧ (0 ≤ x24.toInt) ∧ (x24.toInt ≤ 1) ∧ (0 ≤ x26.toInt) ∧ (x26.toInt ≤ 2000000) ∧ (0 ≤ x30.toInt) ∧ (x30.toInt ≤ 128) ∧ (0 ≤ x32.toInt) ∧ (x32.toInt ≤ 128) ∧ (aR f25 130 (0) 127) ∧ (aR f31 128 (0) 127) ∧ va_P (dC, dI) vwCl (rw_W o c kc (rU (rU (rU (rU (rU (rU (rU (rU (rU (rU (rU (rU (rU (rU (rU (rU st 3 x3) 4 x4) 5 x5) 6 x6) 7 x7) 12 x12) 13 x13) 15 x15) 16 x16) 17 x17) 21 x21) 22 x22) 24 x24) 26 x26) 30 x30) 32 x32) (rU (rU lg 23 y23) 27 y27) (rU (rU (rU (rU (rU (rU ai 0 f0) 14 f14) 19 f19) 20 f20) 25 f25) 31 f31) (rU (rU (rU al 18 g18) 28 g28) 29 g29)) t.heap) A) ([.ref o, .int p0] : List Value).toArray s 0 0 A) (F0 m 0 ls []) := by
    intro H locs hP hS
    refine lv_aload_n hx hb dX9_prune_0 rfl (lv_at hl 0 rfl) ?_
    refine lv_aload_n hx hb dX9_prune_1 rfl (lv_at hl 0 rfl) ?_
    refine va_get (D := (dC, dI)) (ci := 11) (v := .int (st 3)) (C := RX9) (T := TX9) (N := 38) hx hb hts hin9 hown hK hP 0 rfl rfl 3 (by decide) (hts (.fieldLink RX9 72 "BlockLogModel" "on" "Z") (by decide +kernel)) (fun _ h9 => h9) rfl dX9_prune_2 ?_
    refine lv_if_eq (tgt := 12) hx hb dX9_prune_5 (by decide) (fun c_1 => ?_) (fun c_1 => ?_)
    · skip
      have ic_1 := iv_eq c_1
      refine lv_iconst (v := 1) hx hb dX9_prune_12 (by decide) ?_
      refine va_put (D := (dC, dI)) (ci := 11) (v := .int (1 : Int32)) (ty := .int) (C := RX9) (T := TX9) (N := 38) hx hb hts hin9 tyX9 tyX9_ok nmX9 hown hK hP (rw_D hD) hS 0 rfl rfl 13 (by decide) (hts (.fieldLink RX9 91 "BlockLogModel" "thrown" "I") (by decide +kernel)) (fun _ h9 => h9) rfl (by decide +kernel) rfl rfl (Nat.le_of_ble_eq_true rfl) dX9_prune_13 (fun H locs hP _ hS => ?_)
      have hP : va_P (dC, dI) vwCl (rw_W o c kc (rU st 13 (1 : Int32)) lg ai al) H := hP
      refine lv_aload_n hx hb dX9_prune_16 rfl (lv_at hl 0 rfl) ?_
      refine va_get (D := (dC, dI)) (ci := 11) (v := .int (1 : Int32)) (C := RX9) (T := TX9) (N := 38) hx hb hts hin9 hown hK hP 0 rfl rfl 13 (by decide) (hts (.fieldLink RX9 91 "BlockLogModel" "thrown" "I") (by decide +kernel)) (fun _ h9 => h9) rfl dX9_prune_17 ?_
      refine lv_if_le (tgt := 25) hx hb dX9_prune_20 (by decide) (fun c_2 => ?_) (fun c_2 => ?_)
      · skip
        have ic_2 := iv_le c_2
        exfalso
        omega
      · skip
        have ic_2 := iv_nle c_2
        refine lv_iconst (v := 0) hx hb dX9_prune_23 (by decide) ?_
        exact W.iret hx hb hr (fun t ht hW => ⟨⟨_, _, rfl, rfl, st 3, st 4, st 5, st 6, st 7, st 12, (1 : Int32), st 15, st 16, st 17, st 21, st 22, st 24, st 26, st 30, st 32, lg 23, lg 27, ai 0, ai 14, ai 19, ai 20, ai 25, ai 31, al 18, al 28, al 29, (by omega), (by omega), (by omega), (by omega), (by omega), (by omega), (by omega), (by omega), (by omega), (by omega), (by omega), (by omega), (by omega), (by omega), (by omega), (by omega), (by omega), (by omega), (by omega), (by omega), (by omega), (by omega), (by omega), (by omega), (by omega), (by omega), hR25, hR31, by rw [ht]; exact hP⟩, hS.F ht⟩) hS.2.2 dX9_prune_24
    · skip
      have ic_1 := iv_ne c_1
      refine lv_iconst (v := 0) hx hb dX9_prune_8 (by decide) ?_
      refine lv_goto (tgt := 13) hx hb dX9_prune_9 (by decide) ?_
      refine va_put (D := (dC, dI)) (ci := 11) (v := .int (0 : Int32)) (ty := .int) (C := RX9) (T := TX9) (N := 38) hx hb hts hin9 tyX9 tyX9_ok nmX9 hown hK hP (rw_D hD) hS 0 rfl rfl 13 (by decide) (hts (.fieldLink RX9 91 "BlockLogModel" "thrown" "I") (by decide +kernel)) (fun _ h9 => h9) rfl (by decide +kernel) rfl rfl (Nat.le_of_ble_eq_true rfl) dX9_prune_13 (fun H locs hP _ hS => ?_)
      have hP : va_P (dC, dI) vwCl (rw_W o c kc (rU st 13 (0 : Int32)) lg ai al) H := hP
      refine lv_aload_n hx hb dX9_prune_16 rfl (lv_at hl 0 rfl) ?_
      refine va_get (D := (dC, dI)) (ci := 11) (v := .int (0 : Int32)) (C := RX9) (T := TX9) (N := 38) hx hb hts hin9 hown hK hP 0 rfl rfl 13 (by decide) (hts (.fieldLink RX9 91 "BlockLogModel" "thrown" "I") (by decide +kernel)) (fun _ h9 => h9) rfl dX9_prune_17 ?_
      refine lv_if_le (tgt := 25) hx hb dX9_prune_20 (by decide) (fun c_3 => ?_) (fun c_3 => ?_)
      · skip
        have ic_3 := iv_le c_3
        refine lv_aload_n hx hb dX9_prune_25 rfl (lv_at hl 0 rfl) ?_
        have hFc := vfree (rw_D hD : va_D A (rw_W o c kc (rU st 13 (0 : Int32)) lg ai al)) hS hA
        refine va_callv (va_runV (As := []) (rest := []) ⟨hx, hb, hml, hown, hts⟩ (v_X9_read l dC dI o c kc (rU st 13 (0 : Int32)) lg ai al  _ (show 0 ≤ (st 7).toInt by omega) (show (st 7).toInt ≤ 1 by omega) (show 0 ≤ (st 15).toInt by omega) (show (st 15).toInt ≤ 128 by omega) (show 0 ≤ (st 16).toInt by omega) (show (st 16).toInt ≤ 128 by omega) (show 0 ≤ (st 17).toInt by omega) (show (st 17).toInt ≤ 1 by omega) (show -1 ≤ (st 21).toInt by omega) (show (st 21).toInt ≤ 127 by omega) (show 0 ≤ (st 22).toInt by omega) (show (st 22).toInt ≤ 1000000 by omega) (show 0 ≤ (st 24).toInt by omega) (show (st 24).toInt ≤ 1 by omega) (show 0 ≤ (st 26).toInt by omega) (show (st 26).toInt ≤ 2000000 by omega) (show aR (ai 25) 130 (0) 127 from hR25)) (cwV 0 hts gX9_prune_X9_read rfl rfl rfl (by decide +kernel) ⟨Nat.le_of_ble_eq_true rfl, Nat.le_of_ble_eq_true rfl⟩) ⟨fun a U g mk q => by obtain ⟨q0, q1, qP, qK, qD⟩ := q; exact ⟨q0, q1, qP, va_K.moved (u := U) (U := U.calling g mk a) (Vm.Alike.refl U.vm) qK, qD⟩, va_recv hK hP (ci := 11) (q := (RX9, TX9, 38)) rfl (q0 := 0) rfl, fun U hU hW => ⟨rfl, by rw [hU], by rw [hU]; exact hP, va_K.moved hW.alike hK, rw_D (hD.weaken (fun _ _ _ _ => trivial))⟩⟩ rfl rfl hl.1 rfl (lv_room (Nat.le_of_ble_eq_true rfl)) dX9_prune_26 ⟨Nat.le_of_ble_eq_true rfl, Nat.le_of_ble_eq_true rfl⟩) hS (fun q _ h => hFc q h) hFc (fun ur_4 t H1 locs ht hvm er_4 hB hz1 hk1 hS => ?_)
        obtain ⟨x16_4, x17_4, x21_4, x22_4, x24_4, x26_4, y23_4, y27_4, f19_4, f20_4, f25_4, g18_4, k_5, k_6, k_7, k_8, k_9, k_10, k_11, k_12, k_13, k_14, k_15, k_16, k_17, k_18, k_19, k_20, k_21, hR25, hG, hC, hV, hBs, hP1⟩ := hB
        rw [ht] at hP1
        clear hFc hz1 hk1 hvm hP
        subst ht
        have hP := hP1
        clear hP1
        generalize t.heap = H at hP hS ⊢
        have hP : va_P (dC, dI) vwCl (rw_W o c kc (rU (rU (rU (rU (rU (rU (rU st 13 (0 : Int32)) 16 x16_4) 17 x17_4) 21 x21_4) 22 x22_4) 24 x24_4) 26 x26_4) (rU (rU lg 23 y23_4) 27 y27_4) (rU (rU (rU ai 19 f19_4) 20 f20_4) 25 f25_4) (rU al 18 g18_4)) H := hP
        have k_5 : x16_4.toInt = (st 15).toInt := k_5
        have k_6 : 0 ≤ x26_4.toInt - x22_4.toInt := k_6
        have k_7 : x26_4.toInt - x22_4.toInt ≤ 128 := k_7
        have k_8 : (x21_4.toInt = -1 ∨ (rK (ai 0) (st 7) x21_4).toInt = 1) := k_8
        have k_9 : x21_4.toInt < x16_4.toInt := k_9
        have k_10 : 0 ≤ x16_4.toInt := k_10
        have k_11 : x16_4.toInt ≤ 128 := k_11
        have k_12 : 0 ≤ x17_4.toInt := k_12
        have k_13 : x17_4.toInt ≤ 1 := k_13
        have k_14 : -1 ≤ x21_4.toInt := k_14
        have k_15 : x21_4.toInt ≤ 127 := k_15
        have k_16 : 0 ≤ x22_4.toInt := k_16
        have k_17 : x22_4.toInt ≤ 1000000 := k_17
        have k_18 : 0 ≤ x24_4.toInt := k_18
        have k_19 : x24_4.toInt ≤ 1 := k_19
        have k_20 : 0 ≤ x26_4.toInt := k_20
        have k_21 : x26_4.toInt ≤ 2000000 := k_21
        have hR25 : aR f25_4 130 (0) 127 := hR25
        have hG : gOK (ai 0) (st 7) x16_4 f19_4 := hG
        have hC : cOK (ai 0) (st 7) x16_4 f20_4 := hC
        have hV : vOK (ai 0) (st 7) x16_4 f25_4 (x26_4.toInt - x22_4.toInt) := hV
        have hBs : bOK (ai 0) (st 7) x16_4 x24_4 := hBs
        refine lv_aload_n hx hb dX9_prune_29 rfl (lv_at hl 0 rfl) ?_
        refine va_get (D := (dC, dI)) (ci := 11) (v := .int x17_4) (C := RX9) (T := TX9) (N := 38) hx hb hts hin9 hown hK hP 0 rfl rfl 17 (by decide) (hts (.fieldLink RX9 176 "BlockLogModel" "needs" "Z") (by decide +kernel)) (fun _ h9 => h9) rfl dX9_prune_30 ?_
        refine lv_if_eq (tgt := 39) hx hb dX9_prune_33 (by decide) (fun c_22 => ?_) (fun c_22 => ?_)
        · skip
          have ic_22 := iv_eq c_22
          refine lv_aload_n hx hb dX9_prune_39 rfl (lv_at hl 0 rfl) ?_
          have join40 : ∀ (jt_40 : Int32) (H : Heap) (locs : List Loc) (ls : Array Slot), (0 ≤ jt_40.toInt) → (jt_40.toInt ≤ 2) → (jt_40.toInt = 0 → (x22_4.toInt < p0.toInt ∧ p0.toInt ≤ x26_4.toInt)) → va_P (dC, dI) vwCl (rw_W o c kc (rU (rU (rU (rU (rU (rU (rU st 13 (0 : Int32)) 16 x16_4) 17 x17_4) 21 x21_4) 22 x22_4) 24 x24_4) 26 x26_4) (rU (rU lg 23 y23_4) 27 y27_4) (rU (rU (rU ai 19 f19_4) 20 f20_4) 25 f25_4) (rU al 18 g18_4)) H → va_S A s.heap H locs → lv_has ls 10 [(0, .ref o), (1, .int p0)] → W p l e (headSpec wsX9_prune ({ frames := 8, cells := 0, slots := 0, locals := 181 })).room s m ([.ref o, .int p0] : List Value).toArray below meth cM H locs 0 0 (MQ below (va_Qi (fun r (u : Int32) => r = u) (fun u t => ∃ (x3 : Int32) (x4 : Int32) (x5 : Int32) (x6 : Int32) (x7 : Int32) (x12 : Int32) (x13 : Int32) (x15 : Int32) (x16 : Int32) (x17 : Int32) (x21 : Int32) (x22 : Int32) (x24 : Int32) (x26 : Int32) (x30 : Int32) (x32 : Int32) (y23 : Int64) (y27 : Int64) (f0 : Nat → Int32) (f14 : Nat → Int32) (f19 : Nat → Int32) (f20 : Nat → Int32) (f25 : Nat → Int32) (f31 : Nat → Int32) (g18 : Nat → Int64) (g28 : Nat → Int64) (g29 : Nat → Int64), (0 ≤ x3.toInt) ∧ (x3.toInt ≤ 1) ∧ (0 ≤ x6.toInt) ∧ (x6.toInt ≤ 1) ∧ (0 ≤ x7.toInt) ∧ (x7.toInt ≤ 1) ∧ (0 ≤ x12.toInt) ∧ (x12.toInt ≤ 8) ∧ (0 ≤ x15.toInt) ∧ (x15.toInt ≤ 128) ∧ (0 ≤ x16.toInt) ∧ (x16.toInt ≤ 128) ∧ (0 ≤ x17.toInt) ∧ (x17.toInt ≤ 1) ∧ (-1 ≤ x21.toInt) ∧ (x21.toInt ≤ 127) ∧ (0 ≤ x22.toInt) ∧ (x22.toInt ≤ 1000000) ∧ (0 ≤ x24.toInt) ∧ (x24.toInt ≤ 1) ∧ (0 ≤ x26.toInt) ∧ (x26.toInt ≤ 2000000) ∧ (0 ≤ x30.toInt) ∧ (x30.toInt ≤ 128) ∧ (0 ≤ x32.toInt) ∧ (x32.toInt ≤ 128) ∧ (aR f25 130 (0) 127) ∧ (aR f31 128 (0) 127) ∧ va_P (dC, dI) vwCl (rw_W o c kc (rU (rU (rU (rU (rU (rU (rU (rU (rU (rU (rU (rU (rU (rU (rU (rU st 3 x3) 4 x4) 5 x5) 6 x6) 7 x7) 12 x12) 13 x13) 15 x15) 16 x16) 17 x17) 21 x21) 22 x22) 24 x24) 26 x26) 30 x30) 32 x32) (rU (rU lg 23 y23) 27 y27) (rU (rU (rU (rU (rU (rU ai 0 f0) 14 f14) 19 f19) 20 f20) 25 f25) 31 f31) (rU (rU (rU al 18 g18) 28 g28) 29 g29)) t.heap) A) ([.ref o, .int p0] : List Value).toArray s 0 0 A) (F0 m 61 ls [.int jt_40, .ref o]) := by
            intro jt_40 H locs ls ij0_40 ij1_40 ij2_40 hP hS hl
            refine va_put (D := (dC, dI)) (ci := 11) (v := .int jt_40) (ty := .int) (C := RX9) (T := TX9) (N := 38) hx hb hts hin9 tyX9 tyX9_ok nmX9 hown hK hP (rw_D hD) hS 0 rfl rfl 13 (by decide) (hts (.fieldLink RX9 91 "BlockLogModel" "thrown" "I") (by decide +kernel)) (fun _ h9 => h9) rfl (by decide +kernel) rfl rfl (Nat.le_of_ble_eq_true rfl) dX9_prune_61 (fun H locs hP _ hS => ?_)
            have hP : va_P (dC, dI) vwCl (rw_W o c kc (rU (rU (rU (rU (rU (rU (rU st 13 jt_40) 16 x16_4) 17 x17_4) 21 x21_4) 22 x22_4) 24 x24_4) 26 x26_4) (rU (rU lg 23 y23_4) 27 y27_4) (rU (rU (rU ai 19 f19_4) 20 f20_4) 25 f25_4) (rU al 18 g18_4)) H := hP
            refine lv_aload_n hx hb dX9_prune_64 rfl (lv_at hl 0 rfl) ?_
            refine va_get (D := (dC, dI)) (ci := 11) (v := .int jt_40) (C := RX9) (T := TX9) (N := 38) hx hb hts hin9 hown hK hP 0 rfl rfl 13 (by decide) (hts (.fieldLink RX9 91 "BlockLogModel" "thrown" "I") (by decide +kernel)) (fun _ h9 => h9) rfl dX9_prune_65 ?_
            refine lv_if_le (tgt := 73) hx hb dX9_prune_68 (by decide) (fun c_23 => ?_) (fun c_23 => ?_)
            · skip
              have ic_23 := iv_le c_23
              refine lv_aload_n hx hb dX9_prune_73 rfl (lv_at hl 0 rfl) ?_
              refine lv_iload_n hx hb dX9_prune_74 rfl (lv_at hl 1 rfl) ?_
              have hFc := vfree (rw_D hD : va_D A (rw_W o c kc (rU (rU (rU (rU (rU (rU (rU st 13 jt_40) 16 x16_4) 17 x17_4) 21 x21_4) 22 x22_4) 24 x24_4) 26 x26_4) (rU (rU lg 23 y23_4) 27 y27_4) (rU (rU (rU ai 19 f19_4) 20 f20_4) 25 f25_4) (rU al 18 g18_4))) hS hA
              refine va_callv (va_runV (As := [.int p0]) (rest := []) ⟨hx, hb, hml, hown, hts⟩ (v_X9_versionState l dC dI o c kc (rU (rU (rU (rU (rU (rU (rU st 13 jt_40) 16 x16_4) 17 x17_4) 21 x21_4) 22 x22_4) 24 x24_4) 26 x26_4) (rU (rU lg 23 y23_4) 27 y27_4) (rU (rU (rU ai 19 f19_4) 20 f20_4) 25 f25_4) (rU al 18 g18_4) p0 _ (show 0 ≤ (st 7).toInt by omega) (show (st 7).toInt ≤ 1 by omega) (show 0 ≤ x16_4.toInt by omega) (show x16_4.toInt ≤ 128 by omega) (show 0 ≤ x22_4.toInt by omega) (show x22_4.toInt ≤ 1000000 by omega) (show 0 ≤ x24_4.toInt by omega) (show x24_4.toInt ≤ 1 by omega) (show 0 ≤ x26_4.toInt by omega) (show x26_4.toInt ≤ 2000000 by omega) (show x22_4.toInt ≤ p0.toInt by omega) (show p0.toInt - x22_4.toInt ≤ 128 by omega) (show p0.toInt ≤ x26_4.toInt by omega) (show aR f25_4 130 (0) 127 from hR25) (show vOK (ai 0) (st 7) x16_4 f25_4 (x26_4.toInt - x22_4.toInt) from (by assumption)) (show bOK (ai 0) (st 7) x16_4 x24_4 from (by assumption))) (cwV 1 hts gX9_prune_X9_versionState rfl rfl rfl (by decide +kernel) ⟨Nat.le_of_ble_eq_true rfl, Nat.le_of_ble_eq_true rfl⟩) ⟨fun a U g mk q => by obtain ⟨q0, q1, qP, qK, qD⟩ := q; exact ⟨q0, q1, qP, va_K.moved (u := U) (U := U.calling g mk a) (Vm.Alike.refl U.vm) qK, qD⟩, va_recv hK hP (ci := 11) (q := (RX9, TX9, 38)) rfl (q0 := 0) rfl, fun U hU hW => ⟨rfl, by rw [hU], by rw [hU]; exact hP, va_K.moved hW.alike hK, rw_D (hD.weaken (fun _ _ _ _ => trivial))⟩⟩ rfl rfl hl.1 rfl (lv_room (Nat.le_of_ble_eq_true rfl)) dX9_prune_75 ⟨Nat.le_of_ble_eq_true rfl, Nat.le_of_ble_eq_true rfl⟩) hS (fun q _ h => hFc q h) hFc (fun ur_24 t H1 locs ht hvm er_24 hB hz1 hk1 hS => ?_)
              obtain ⟨g28_24, hSt, hP1⟩ := hB
              rw [ht] at hP1
              clear hFc hz1 hk1 hvm hP
              subst ht
              have hP := hP1
              clear hP1
              generalize t.heap = H at hP hS ⊢
              have hP : va_P (dC, dI) vwCl (rw_W o c kc (rU (rU (rU (rU (rU (rU (rU st 13 jt_40) 16 x16_4) 17 x17_4) 21 x21_4) 22 x22_4) 24 x24_4) 26 x26_4) (rU (rU lg 23 y23_4) 27 y27_4) (rU (rU (rU ai 19 f19_4) 20 f20_4) 25 f25_4) (rU (rU al 18 g18_4) 28 g28_24)) H := hP
              have hSt : sOK (ai 0) (st 7) g28_24 := hSt
              refine lv_aload_n hx hb dX9_prune_78 rfl (lv_at hl 0 rfl) ?_
              refine lv_iload_n hx hb dX9_prune_79 rfl (lv_at hl 1 rfl) ?_
              refine vp_callSl (va_Run.run (va_runV (As := [.int p0]) (rest := []) ⟨hx, hb, hml, hown, hts⟩ (v_X9_versionDigest l dC dI o c kc (rU (rU (rU (rU (rU (rU (rU st 13 jt_40) 16 x16_4) 17 x17_4) 21 x21_4) 22 x22_4) 24 x24_4) 26 x26_4) (rU (rU lg 23 y23_4) 27 y27_4) (rU (rU (rU ai 19 f19_4) 20 f20_4) 25 f25_4) (rU (rU al 18 g18_4) 28 g28_24) p0 (show 0 ≤ x22_4.toInt by omega) (show x22_4.toInt ≤ 1000000 by omega) (show x22_4.toInt ≤ p0.toInt by omega) (show p0.toInt - x22_4.toInt ≤ 128 by omega) (show aR f25_4 130 (0) 127 from hR25)) (cwV 1 hts gX9_prune_X9_versionDigest rfl rfl rfl (by decide +kernel) ⟨Nat.le_of_ble_eq_true rfl, Nat.le_of_ble_eq_true rfl⟩) ⟨fun a U g mk q => by obtain ⟨q0, qP, qK⟩ := q; exact ⟨q0, qP, va_K.moved (u := U) (U := U.calling g mk a) (Vm.Alike.refl U.vm) qK⟩, va_recv hK hP (ci := 11) (q := (RX9, TX9, 38)) rfl (q0 := 0) rfl, fun U hU hW => ⟨rfl, by rw [hU]; exact hP, va_K.moved hW.alike hK⟩⟩ rfl rfl hl.1 rfl (lv_room (Nat.le_of_ble_eq_true rfl)) dX9_prune_80 ⟨Nat.le_of_ble_eq_true rfl, Nat.le_of_ble_eq_true rfl⟩)) (fun r_25 er_25 => ?_)
              refine lv_lstore_n (lv' := [(2, .long r_25), (0, .ref o), (1, .int p0)]) hx hb dX9_prune_83 rfl hl (by decide) rfl (fun ls hl => ?_)
              refine lv_aload_n hx hb dX9_prune_84 rfl (lv_at hl 1 rfl) ?_
              refine lv_iload_n hx hb dX9_prune_85 rfl (lv_at hl 2 rfl) ?_
              refine lv_lload_n hx hb dX9_prune_86 rfl (lv_at hl 0 rfl) ?_
              have hFc := vfree (rw_D hD : va_D A (rw_W o c kc (rU (rU (rU (rU (rU (rU (rU st 13 jt_40) 16 x16_4) 17 x17_4) 21 x21_4) 22 x22_4) 24 x24_4) 26 x26_4) (rU (rU lg 23 y23_4) 27 y27_4) (rU (rU (rU ai 19 f19_4) 20 f20_4) 25 f25_4) (rU (rU al 18 g18_4) 28 g28_24))) hS hA
              refine va_callv (va_runV (As := [.int p0, .long r_25]) (rest := []) ⟨hx, hb, hml, hown, hts⟩ (v_X9_keepRows l dC dI o c kc (rU (rU (rU (rU (rU (rU (rU st 13 jt_40) 16 x16_4) 17 x17_4) 21 x21_4) 22 x22_4) 24 x24_4) 26 x26_4) (rU (rU lg 23 y23_4) 27 y27_4) (rU (rU (rU ai 19 f19_4) 20 f20_4) 25 f25_4) (rU (rU al 18 g18_4) 28 g28_24) p0 r_25 _ (show 0 ≤ (st 7).toInt by omega) (show (st 7).toInt ≤ 1 by omega) (show 0 ≤ x16_4.toInt by omega) (show x16_4.toInt ≤ 128 by omega) (show -1 ≤ x21_4.toInt by omega) (show x21_4.toInt ≤ 127 by omega) (show 0 ≤ (st 32).toInt by omega) (show (st 32).toInt ≤ 128 by omega) (show (x21_4.toInt = -1 ∨ (rK (ai 0) (st 7) x21_4).toInt = 1) by omega) (show aR (ai 31) 128 (0) 127 from hR31) (show cOK (ai 0) (st 7) x16_4 f20_4 from (by assumption))) (cwV 2 hts gX9_prune_X9_keepRows rfl rfl rfl (by decide +kernel) ⟨Nat.le_of_ble_eq_true rfl, Nat.le_of_ble_eq_true rfl⟩) ⟨fun a U g mk q => by obtain ⟨q0, q1, qP, qK, qD⟩ := q; exact ⟨q0, q1, qP, va_K.moved (u := U) (U := U.calling g mk a) (Vm.Alike.refl U.vm) qK, qD⟩, va_recv hK hP (ci := 11) (q := (RX9, TX9, 38)) rfl (q0 := 0) rfl, fun U hU hW => ⟨rfl, by rw [hU], by rw [hU]; exact hP, va_K.moved hW.alike hK, rw_D (hD.weaken (fun _ _ _ _ => trivial))⟩⟩ rfl rfl hl.1 rfl (lv_room (Nat.le_of_ble_eq_true rfl)) dX9_prune_87 ⟨Nat.le_of_ble_eq_true rfl, Nat.le_of_ble_eq_true rfl⟩) hS (fun q _ h => hFc q h) hFc (fun ur_26 t H1 locs ht hvm er_26 hB hz1 hk1 hS => ?_)
              obtain ⟨x32_26, f31_26, k_27, k_28, hR31, hP1⟩ := hB
              rw [ht] at hP1
              clear hFc hz1 hk1 hvm hP
              subst ht
              have hP := hP1
              clear hP1
              generalize t.heap = H at hP hS ⊢
              have hP : va_P (dC, dI) vwCl (rw_W o c kc (rU (rU (rU (rU (rU (rU (rU (rU st 13 jt_40) 16 x16_4) 17 x17_4) 21 x21_4) 22 x22_4) 24 x24_4) 26 x26_4) 32 x32_26) (rU (rU lg 23 y23_4) 27 y27_4) (rU (rU (rU (rU ai 19 f19_4) 20 f20_4) 25 f25_4) 31 f31_26) (rU (rU al 18 g18_4) 28 g28_24)) H := hP
              have k_27 : 0 ≤ x32_26.toInt := k_27
              have k_28 : x32_26.toInt ≤ 128 := k_28
              have hR31 : aR f31_26 128 (0) 127 := hR31
              refine lv_aload_n hx hb dX9_prune_90 rfl (lv_at hl 1 rfl) ?_
              refine vp_callSi (va_Run.run (va_runV (As := []) (rest := []) ⟨hx, hb, hml, hown, hts⟩ (v_X9_slotsWithLeaf l dC dI o c kc (rU (rU (rU (rU (rU (rU (rU (rU st 13 jt_40) 16 x16_4) 17 x17_4) 21 x21_4) 22 x22_4) 24 x24_4) 26 x26_4) 32 x32_26) (rU (rU lg 23 y23_4) 27 y27_4) (rU (rU (rU (rU ai 19 f19_4) 20 f20_4) 25 f25_4) 31 f31_26) (rU (rU al 18 g18_4) 28 g28_24)  ) (cwV 0 hts gX9_prune_X9_slotsWithLeaf rfl rfl rfl (by decide +kernel) ⟨Nat.le_of_ble_eq_true rfl, Nat.le_of_ble_eq_true rfl⟩) ⟨fun a U g mk q => by obtain ⟨q0, qP, qK⟩ := q; exact ⟨q0, qP, va_K.moved (u := U) (U := U.calling g mk a) (Vm.Alike.refl U.vm) qK⟩, va_recv hK hP (ci := 11) (q := (RX9, TX9, 38)) rfl (q0 := 0) rfl, fun U hU hW => ⟨rfl, by rw [hU]; exact hP, va_K.moved hW.alike hK⟩⟩ rfl rfl hl.1 rfl (lv_room (Nat.le_of_ble_eq_true rfl)) dX9_prune_91 ⟨Nat.le_of_ble_eq_true rfl, Nat.le_of_ble_eq_true rfl⟩)) (fun r_29 er_29 => ?_)
              obtain ⟨k_30, k_31, hcn⟩ := er_29
              have hcn : r_29.toInt = (cntL g28_24 16 : Int) := hcn
              have hcs := hcn
              refine lv_istore (lv' := [(4, .int r_29), (2, .long r_25), (0, .ref o), (1, .int p0)]) hx hb dX9_prune_94 hl (by decide) rfl (fun ls hl => ?_)
              refine lv_iconst (v := 1) hx hb dX9_prune_96 (by decide) ?_
              refine lv_iload hx hb dX9_prune_97 (lv_at hl 0 rfl) ?_
              refine lv_iadd hx hb dX9_prune_99 ?_
              refine lv_topi (fun v_32 ev_32 => ?_)
              have rg1 := iv_rng r_29
              have hv_32 : v_32.toInt = 1 + r_29.toInt := by rw [ev_32]; exact (iv_add (by omega) (by omega)).trans (by omega)
              refine lv_aload_n hx hb dX9_prune_100 rfl (lv_at hl 2 rfl) ?_
              refine va_get (D := (dC, dI)) (ci := 11) (v := .int x32_26) (C := RX9) (T := TX9) (N := 38) hx hb hts hin9 hown hK hP 0 rfl rfl 32 (by decide) (hts (.fieldLink RX9 328 "BlockLogModel" "kept" "I") (by decide +kernel)) (fun _ h9 => h9) rfl dX9_prune_101 ?_
              refine lv_iadd hx hb dX9_prune_104 ?_
              refine lv_topi (fun v_33 ev_33 => ?_)
              have rg2 := iv_rng v_32
              have rg3 := iv_rng x32_26
              have hv_33 : v_33.toInt = v_32.toInt + x32_26.toInt := by rw [ev_33]; exact (iv_add (by omega) (by omega)).trans (by omega)
              refine lv_sipush (v := 128) hx hb dX9_prune_105 (by decide) ?_
              refine lv_icmp_le (tgt := 114) hx hb dX9_prune_108 (by decide) (fun c_34 => ?_) (fun c_34 => ?_)
              · skip
                have ic_34 := iv_le c_34
                refine lv_iconst (v := 1) hx hb dX9_prune_114 (by decide) ?_
                refine lv_aload_n hx hb dX9_prune_115 rfl (lv_at hl 2 rfl) ?_
                refine va_get (D := (dC, dI)) (ci := 11) (v := .int (st 7)) (C := RX9) (T := TX9) (N := 38) hx hb hts hin9 hown hK hP 0 rfl rfl 7 (by decide) (hts (.fieldLink RX9 76 "BlockLogModel" "area" "I") (by decide +kernel)) (fun _ h9 => h9) rfl dX9_prune_116 ?_
                refine lv_isub hx hb dX9_prune_119 ?_
                refine lv_topi (fun v_35 ev_35 => ?_)
                have rg4 := iv_rng (st 7)
                have hv_35 : v_35.toInt = 1 - (st 7).toInt := by rw [ev_35]; exact (iv_sub (by omega) (by omega)).trans (by omega)
                refine lv_istore (lv' := [(5, .int v_35), (4, .int r_29), (2, .long r_25), (0, .ref o), (1, .int p0)]) hx hb dX9_prune_120 hl (by decide) rfl (fun ls hl => ?_)
                refine lv_aload_n hx hb dX9_prune_122 rfl (lv_at hl 3 rfl) ?_
                refine lv_bipush (v := 32) hx hb dX9_prune_123 (by decide) ?_
                refine lv_sipush (v := 4096) hx hb dX9_prune_125 (by decide) ?_
                refine lv_iload hx hb dX9_prune_128 (lv_at hl 0 rfl) ?_
                refine lv_imul hx hb dX9_prune_130 ?_
                refine lv_topi (fun v_36 ev_36 => ?_)
                have rg5 := iv_rng v_35
                have hv_36 : v_36.toInt = 4096 * v_35.toInt := by rw [ev_36]; exact (iv_mulc z_4096 (by omega) (by omega)).trans (by omega)
                refine lv_iadd hx hb dX9_prune_131 ?_
                refine lv_topi (fun v_37 ev_37 => ?_)
                have rg6 := iv_rng v_36
                have hv_37 : v_37.toInt = 32 + v_36.toInt := by rw [ev_37]; exact (iv_add (by omega) (by omega)).trans (by omega)
                refine lv_sipush (v := 4096) hx hb dX9_prune_132 (by decide) ?_
                have hFc := vfree (rw_D hD : va_D A (rw_W o c kc (rU (rU (rU (rU (rU (rU (rU (rU st 13 jt_40) 16 x16_4) 17 x17_4) 21 x21_4) 22 x22_4) 24 x24_4) 26 x26_4) 32 x32_26) (rU (rU lg 23 y23_4) 27 y27_4) (rU (rU (rU (rU ai 19 f19_4) 20 f20_4) 25 f25_4) 31 f31_26) (rU (rU al 18 g18_4) 28 g28_24))) hS hA
                refine va_callv (va_runV (As := [.int v_37, .int (4096 : Int32)]) (rest := []) ⟨hx, hb, hml, hown, hts⟩ (v_X9_erase l dC dI o c kc (rU (rU (rU (rU (rU (rU (rU (rU st 13 jt_40) 16 x16_4) 17 x17_4) 21 x21_4) 22 x22_4) 24 x24_4) 26 x26_4) 32 x32_26) (rU (rU lg 23 y23_4) 27 y27_4) (rU (rU (rU (rU ai 19 f19_4) 20 f20_4) 25 f25_4) 31 f31_26) (rU (rU al 18 g18_4) 28 g28_24) v_37 (4096 : Int32) _ (show 0 ≤ (st 3).toInt by omega) (show (st 3).toInt ≤ 1 by omega) (show 0 ≤ (st 6).toInt by omega) (show (st 6).toInt ≤ 1 by omega) (show 0 ≤ (st 12).toInt by omega) (show (st 12).toInt ≤ 8 by omega) (by omega) (by omega) (by omega) (by omega)) (cwV 2 hts gX9_prune_X9_erase rfl rfl rfl (by decide +kernel) ⟨Nat.le_of_ble_eq_true rfl, Nat.le_of_ble_eq_true rfl⟩) ⟨fun a U g mk q => by obtain ⟨q0, q1, qP, qK, qD⟩ := q; exact ⟨q0, q1, qP, va_K.moved (u := U) (U := U.calling g mk a) (Vm.Alike.refl U.vm) qK, qD⟩, va_recv hK hP (ci := 11) (q := (RX9, TX9, 38)) rfl (q0 := 0) rfl, fun U hU hW => ⟨rfl, by rw [hU], by rw [hU]; exact hP, va_K.moved hW.alike hK, rw_D (hD.weaken (fun _ _ _ _ => trivial))⟩⟩ rfl rfl hl.1 rfl (lv_room (Nat.le_of_ble_eq_true rfl)) dX9_prune_135 ⟨Nat.le_of_ble_eq_true rfl, Nat.le_of_ble_eq_true rfl⟩) hS (fun q _ h => hFc q h) hFc (fun ur_38 t H1 locs ht hvm er_38 hB hz1 hk1 hS => ?_)
                obtain ⟨x3_38, x4_38, x5_38, x6_38, x12_38, f0_38, k_39, k_40, k_41, k_42, k_43, k_44, hP1⟩ := hB
                rw [ht] at hP1
                clear hFc hz1 hk1 hvm hP
                subst ht
                have hP := hP1
                clear hP1
                generalize t.heap = H at hP hS ⊢
                have hP : va_P (dC, dI) vwCl (rw_W o c kc (rU (rU (rU (rU (rU (rU (rU (rU (rU (rU (rU (rU (rU st 3 x3_38) 4 x4_38) 5 x5_38) 6 x6_38) 12 x12_38) 13 jt_40) 16 x16_4) 17 x17_4) 21 x21_4) 22 x22_4) 24 x24_4) 26 x26_4) 32 x32_26) (rU (rU lg 23 y23_4) 27 y27_4) (rU (rU (rU (rU (rU ai 0 f0_38) 19 f19_4) 20 f20_4) 25 f25_4) 31 f31_26) (rU (rU al 18 g18_4) 28 g28_24)) H := hP
                have k_39 : 0 ≤ x3_38.toInt := k_39
                have k_40 : x3_38.toInt ≤ 1 := k_40
                have k_41 : 0 ≤ x6_38.toInt := k_41
                have k_42 : x6_38.toInt ≤ 1 := k_42
                have k_43 : 0 ≤ x12_38.toInt := k_43
                have k_44 : x12_38.toInt ≤ 8 := k_44
                refine lv_iconst (v := 0) hx hb dX9_prune_138 (by decide) ?_
                refine lv_istore (lv' := [(6, .int (0 : Int32)), (5, .int v_35), (4, .int r_29), (2, .long r_25), (0, .ref o), (1, .int p0)]) hx hb dX9_prune_139 hl (by decide) rfl (fun ls hl => ?_)
                refine lv_aload_n hx hb dX9_prune_141 rfl (lv_at hl 4 rfl) ?_
                refine lv_iconst (v := 5) hx hb dX9_prune_142 (by decide) ?_
                refine lv_iload_n hx hb dX9_prune_143 rfl (lv_at hl 5 rfl) ?_
                refine lv_iload hx hb dX9_prune_144 (lv_at hl 2 rfl) ?_
                refine lv_lload_n hx hb dX9_prune_146 rfl (lv_at hl 3 rfl) ?_
                have hFc := vfree (rw_D hD : va_D A (rw_W o c kc (rU (rU (rU (rU (rU (rU (rU (rU (rU (rU (rU (rU (rU st 3 x3_38) 4 x4_38) 5 x5_38) 6 x6_38) 12 x12_38) 13 jt_40) 16 x16_4) 17 x17_4) 21 x21_4) 22 x22_4) 24 x24_4) 26 x26_4) 32 x32_26) (rU (rU lg 23 y23_4) 27 y27_4) (rU (rU (rU (rU (rU ai 0 f0_38) 19 f19_4) 20 f20_4) 25 f25_4) 31 f31_26) (rU (rU al 18 g18_4) 28 g28_24))) hS hA
                refine va_callv (va_runV (As := [.int (5 : Int32), .int p0, .int r_29, .long r_25]) (rest := []) ⟨hx, hb, hml, hown, hts⟩ (v_X9_layRow l dC dI o c kc (rU (rU (rU (rU (rU (rU (rU (rU (rU (rU (rU (rU (rU st 3 x3_38) 4 x4_38) 5 x5_38) 6 x6_38) 12 x12_38) 13 jt_40) 16 x16_4) 17 x17_4) 21 x21_4) 22 x22_4) 24 x24_4) 26 x26_4) 32 x32_26) (rU (rU lg 23 y23_4) 27 y27_4) (rU (rU (rU (rU (rU ai 0 f0_38) 19 f19_4) 20 f20_4) 25 f25_4) 31 f31_26) (rU (rU al 18 g18_4) 28 g28_24) (5 : Int32) p0 r_29 r_25 _ ) (cwV 4 hts gX9_prune_X9_layRow rfl rfl rfl (by decide +kernel) ⟨Nat.le_of_ble_eq_true rfl, Nat.le_of_ble_eq_true rfl⟩) ⟨fun a U g mk q => by obtain ⟨q0, q1, qP, qK, qD⟩ := q; exact ⟨q0, q1, qP, va_K.moved (u := U) (U := U.calling g mk a) (Vm.Alike.refl U.vm) qK, qD⟩, va_recv hK hP (ci := 11) (q := (RX9, TX9, 38)) rfl (q0 := 0) rfl, fun U hU hW => ⟨rfl, by rw [hU], by rw [hU]; exact hP, va_K.moved hW.alike hK, rw_D (hD.weaken (fun _ _ _ _ => trivial))⟩⟩ rfl rfl hl.1 rfl (lv_room (Nat.le_of_ble_eq_true rfl)) dX9_prune_147 ⟨Nat.le_of_ble_eq_true rfl, Nat.le_of_ble_eq_true rfl⟩) hS (fun q _ h => hFc q h) hFc (fun ur_45 t H1 locs ht hvm er_45 hB hz1 hk1 hS => ?_)
                obtain ⟨f14_45, hP1⟩ := hB
                rw [ht] at hP1
                clear hFc hz1 hk1 hvm hP
                subst ht
                have hP := hP1
                clear hP1
                generalize t.heap = H at hP hS ⊢
                have hP : va_P (dC, dI) vwCl (rw_W o c kc (rU (rU (rU (rU (rU (rU (rU (rU (rU (rU (rU (rU (rU st 3 x3_38) 4 x4_38) 5 x5_38) 6 x6_38) 12 x12_38) 13 jt_40) 16 x16_4) 17 x17_4) 21 x21_4) 22 x22_4) 24 x24_4) 26 x26_4) 32 x32_26) (rU (rU lg 23 y23_4) 27 y27_4) (rU (rU (rU (rU (rU (rU ai 0 f0_38) 14 f14_45) 19 f19_4) 20 f20_4) 25 f25_4) 31 f31_26) (rU (rU al 18 g18_4) 28 g28_24)) H := hP
                refine lv_aload_n hx hb dX9_prune_150 rfl (lv_at hl 4 rfl) ?_
                refine lv_aload_n hx hb dX9_prune_151 rfl (lv_at hl 4 rfl) ?_
                refine lv_iload hx hb dX9_prune_152 (lv_at hl 1 rfl) ?_
                refine lv_iload hx hb dX9_prune_154 (lv_at hl 0 rfl) ?_
                obtain ⟨x_46, ex_46⟩ : ∃ z : Int32, z = (0 : Int32) + (1) := ⟨_, rfl⟩
                refine lv_iinc (v := x_46) (lv' := [(6, .int x_46), (5, .int v_35), (4, .int r_29), (2, .long r_25), (0, .ref o), (1, .int p0)]) hx hb dX9_prune_156 hl (k := 0) rfl (by rw [ex_46]; rfl) (by decide) rfl (fun ls hl => ?_)
                have hx_46 : x_46.toInt = 0 + (1) := by rw [ex_46]; exact (iv_add (by omega) (by omega)).trans (by omega)
                clear ex_46
                refine vp_callSi (va_Run.run (va_runV (As := [.int v_35, .int (0 : Int32)]) (rest := [.ref o]) ⟨hx, hb, hml, hown, hts⟩ (v_X9_rowPlace l dC dI o c kc (rU (rU (rU (rU (rU (rU (rU (rU (rU (rU (rU (rU (rU st 3 x3_38) 4 x4_38) 5 x5_38) 6 x6_38) 12 x12_38) 13 jt_40) 16 x16_4) 17 x17_4) 21 x21_4) 22 x22_4) 24 x24_4) 26 x26_4) 32 x32_26) (rU (rU lg 23 y23_4) 27 y27_4) (rU (rU (rU (rU (rU (rU ai 0 f0_38) 14 f14_45) 19 f19_4) 20 f20_4) 25 f25_4) 31 f31_26) (rU (rU al 18 g18_4) 28 g28_24) v_35 (0 : Int32) (by omega) (by omega) (by omega) (by omega)) (cwV 2 hts gX9_prune_X9_rowPlace rfl rfl rfl (by decide +kernel) ⟨Nat.le_of_ble_eq_true rfl, Nat.le_of_ble_eq_true rfl⟩) ⟨fun a U g mk q => by obtain ⟨q0, qP, qK⟩ := q; exact ⟨q0, qP, va_K.moved (u := U) (U := U.calling g mk a) (Vm.Alike.refl U.vm) qK⟩, va_recv hK hP (ci := 11) (q := (RX9, TX9, 38)) rfl (q0 := 0) rfl, fun U hU hW => ⟨rfl, by rw [hU]; exact hP, va_K.moved hW.alike hK⟩⟩ rfl rfl hl.1 rfl (lv_room (Nat.le_of_ble_eq_true rfl)) dX9_prune_159 ⟨Nat.le_of_ble_eq_true rfl, Nat.le_of_ble_eq_true rfl⟩)) (fun r_47 er_47 => ?_)
                have k_48 := er_47
                refine lv_bipush (v := 32) hx hb dX9_prune_162 (by decide) ?_
                have hFc := vfree (rw_D hD : va_D A (rw_W o c kc (rU (rU (rU (rU (rU (rU (rU (rU (rU (rU (rU (rU (rU st 3 x3_38) 4 x4_38) 5 x5_38) 6 x6_38) 12 x12_38) 13 jt_40) 16 x16_4) 17 x17_4) 21 x21_4) 22 x22_4) 24 x24_4) 26 x26_4) 32 x32_26) (rU (rU lg 23 y23_4) 27 y27_4) (rU (rU (rU (rU (rU (rU ai 0 f0_38) 14 f14_45) 19 f19_4) 20 f20_4) 25 f25_4) 31 f31_26) (rU (rU al 18 g18_4) 28 g28_24))) hS hA
                refine va_callv (va_runV (As := [.int r_47, .int (32 : Int32)]) (rest := []) ⟨hx, hb, hml, hown, hts⟩ (v_X9_writeFresh l dC dI o c kc (rU (rU (rU (rU (rU (rU (rU (rU (rU (rU (rU (rU (rU st 3 x3_38) 4 x4_38) 5 x5_38) 6 x6_38) 12 x12_38) 13 jt_40) 16 x16_4) 17 x17_4) 21 x21_4) 22 x22_4) 24 x24_4) 26 x26_4) 32 x32_26) (rU (rU lg 23 y23_4) 27 y27_4) (rU (rU (rU (rU (rU (rU ai 0 f0_38) 14 f14_45) 19 f19_4) 20 f20_4) 25 f25_4) 31 f31_26) (rU (rU al 18 g18_4) 28 g28_24) r_47 (32 : Int32) _ (show 0 ≤ x3_38.toInt by omega) (show x3_38.toInt ≤ 1 by omega) (show 0 ≤ x6_38.toInt by omega) (show x6_38.toInt ≤ 1 by omega) (show 0 ≤ x12_38.toInt by omega) (show x12_38.toInt ≤ 8 by omega) (by omega) (by omega) (by omega) (by omega)) (cwV 2 hts gX9_prune_X9_writeFresh rfl rfl rfl (by decide +kernel) ⟨Nat.le_of_ble_eq_true rfl, Nat.le_of_ble_eq_true rfl⟩) ⟨fun a U g mk q => by obtain ⟨q0, q1, qP, qK, qD⟩ := q; exact ⟨q0, q1, qP, va_K.moved (u := U) (U := U.calling g mk a) (Vm.Alike.refl U.vm) qK, qD⟩, va_recv hK hP (ci := 11) (q := (RX9, TX9, 38)) rfl (q0 := 0) rfl, fun U hU hW => ⟨rfl, by rw [hU], by rw [hU]; exact hP, va_K.moved hW.alike hK, rw_D (hD.weaken (fun _ _ _ _ => trivial))⟩⟩ rfl rfl hl.1 rfl (lv_room (Nat.le_of_ble_eq_true rfl)) dX9_prune_164 ⟨Nat.le_of_ble_eq_true rfl, Nat.le_of_ble_eq_true rfl⟩) hS (fun q _ h => hFc q h) hFc (fun ur_49 t H1 locs ht hvm er_49 hB hz1 hk1 hS => ?_)
                obtain ⟨x3_49, x4_49, x5_49, x6_49, x12_49, f0_49, k_50, k_51, k_52, k_53, k_54, k_55, hP1⟩ := hB
                rw [ht] at hP1
                clear hFc hz1 hk1 hvm hP
                subst ht
                have hP := hP1
                clear hP1
                generalize t.heap = H at hP hS ⊢
                have hP : va_P (dC, dI) vwCl (rw_W o c kc (rU (rU (rU (rU (rU (rU (rU (rU (rU (rU (rU (rU (rU st 3 x3_49) 4 x4_49) 5 x5_49) 6 x6_49) 12 x12_49) 13 jt_40) 16 x16_4) 17 x17_4) 21 x21_4) 22 x22_4) 24 x24_4) 26 x26_4) 32 x32_26) (rU (rU lg 23 y23_4) 27 y27_4) (rU (rU (rU (rU (rU (rU ai 0 f0_49) 14 f14_45) 19 f19_4) 20 f20_4) 25 f25_4) 31 f31_26) (rU (rU al 18 g18_4) 28 g28_24)) H := hP
                have k_50 : 0 ≤ x3_49.toInt := k_50
                have k_51 : x3_49.toInt ≤ 1 := k_51
                have k_52 : 0 ≤ x6_49.toInt := k_52
                have k_53 : x6_49.toInt ≤ 1 := k_53
                have k_54 : 0 ≤ x12_49.toInt := k_54
                have k_55 : x12_49.toInt ≤ 8 := k_55
                refine lv_iconst (v := 0) hx hb dX9_prune_167 (by decide) ?_
                refine lv_istore (lv' := [(7, .int (0 : Int32)), (6, .int x_46), (5, .int v_35), (4, .int r_29), (2, .long r_25), (0, .ref o), (1, .int p0)]) hx hb dX9_prune_168 hl (by decide) rfl (fun ls hl => ?_)
                have loop170 : ∀ (n : Nat) (l7_170 : Int32) (l6_170 : Int32) (s3_170 : Int32) (s4_170 : Int32) (s5_170 : Int32) (s6_170 : Int32) (s12_170 : Int32) (a0_170 : Nat → Int32) (a14_170 : Nat → Int32) (H : Heap) (locs : List Loc) (ls : Array Slot), (0 ≤ l7_170.toInt) → (l7_170.toInt ≤ 16) → (1 ≤ l6_170.toInt) → (l6_170.toInt ≤ 1 + l7_170.toInt) → (0 ≤ s3_170.toInt) → (s3_170.toInt ≤ 1) → (0 ≤ s6_170.toInt) → (s6_170.toInt ≤ 1) → (0 ≤ s12_170.toInt) → (s12_170.toInt ≤ 8) → (l6_170.toInt - 1 = (cntL g28_24 l7_170.toInt.toNat : Int)) → (16 - l7_170.toInt : Int).toNat < n → va_P (dC, dI) vwCl (rw_W o c kc (rU (rU (rU (rU (rU (rU (rU (rU (rU (rU (rU (rU (rU st 3 s3_170) 4 s4_170) 5 s5_170) 6 s6_170) 12 s12_170) 13 jt_40) 16 x16_4) 17 x17_4) 21 x21_4) 22 x22_4) 24 x24_4) 26 x26_4) 32 x32_26) (rU (rU lg 23 y23_4) 27 y27_4) (rU (rU (rU (rU (rU (rU ai 0 a0_170) 14 a14_170) 19 f19_4) 20 f20_4) 25 f25_4) 31 f31_26) (rU (rU al 18 g18_4) 28 g28_24)) H → va_S A s.heap H locs → lv_has ls 10 [(7, .int l7_170), (6, .int l6_170), (5, .int v_35), (4, .int r_29), (2, .long r_25), (0, .ref o), (1, .int p0)] → W p l e (headSpec wsX9_prune ({ frames := 8, cells := 0, slots := 0, locals := 181 })).room s m ([.ref o, .int p0] : List Value).toArray below meth cM H locs 0 0 (MQ below (va_Qi (fun r (u : Int32) => r = u) (fun u t => ∃ (x3 : Int32) (x4 : Int32) (x5 : Int32) (x6 : Int32) (x7 : Int32) (x12 : Int32) (x13 : Int32) (x15 : Int32) (x16 : Int32) (x17 : Int32) (x21 : Int32) (x22 : Int32) (x24 : Int32) (x26 : Int32) (x30 : Int32) (x32 : Int32) (y23 : Int64) (y27 : Int64) (f0 : Nat → Int32) (f14 : Nat → Int32) (f19 : Nat → Int32) (f20 : Nat → Int32) (f25 : Nat → Int32) (f31 : Nat → Int32) (g18 : Nat → Int64) (g28 : Nat → Int64) (g29 : Nat → Int64), (0 ≤ x3.toInt) ∧ (x3.toInt ≤ 1) ∧ (0 ≤ x6.toInt) ∧ (x6.toInt ≤ 1) ∧ (0 ≤ x7.toInt) ∧ (x7.toInt ≤ 1) ∧ (0 ≤ x12.toInt) ∧ (x12.toInt ≤ 8) ∧ (0 ≤ x15.toInt) ∧ (x15.toInt ≤ 128) ∧ (0 ≤ x16.toInt) ∧ (x16.toInt ≤ 128) ∧ (0 ≤ x17.toInt) ∧ (x17.toInt ≤ 1) ∧ (-1 ≤ x21.toInt) ∧ (x21.toInt ≤ 127) ∧ (0 ≤ x22.toInt) ∧ (x22.toInt ≤ 1000000) ∧ (0 ≤ x24.toInt) ∧ (x24.toInt ≤ 1) ∧ (0 ≤ x26.toInt) ∧ (x26.toInt ≤ 2000000) ∧ (0 ≤ x30.toInt) ∧ (x30.toInt ≤ 128) ∧ (0 ≤ x32.toInt) ∧ (x32.toInt ≤ 128) ∧ (aR f25 130 (0) 127) ∧ (aR f31 128 (0) 127) ∧ va_P (dC, dI) vwCl (rw_W o c kc (rU (rU (rU (rU (rU (rU (rU (rU (rU (rU (rU (rU (rU (rU (rU (rU st 3 x3) 4 x4) 5 x5) 6 x6) 7 x7) 12 x12) 13 x13) 15 x15) 16 x16) 17 x17) 21 x21) 22 x22) 24 x24) 26 x26) 30 x30) 32 x32) (rU (rU lg 23 y23) 27 y27) (rU (rU (rU (rU (rU (rU ai 0 f0) 14 f14) 19 f19) 20 f20) 25 f25) 31 f31) (rU (rU (rU al 18 g18) 28 g28) 29 g29)) t.heap) A) ([.ref o, .int p0] : List Value).toArray s 0 0 A) (F0 m 170 ls []) := by
                  intro n
                  induction n with
                  | zero => intro l7_170 l6_170 s3_170 s4_170 s5_170 s6_170 s12_170 a0_170 a14_170 H locs ls if0_170 if1_170 if2_170 if3_170 if4_170 if5_170 if6_170 if7_170 if8_170 if9_170 hcr hm; exact absurd hm (Nat.not_lt_zero _)
                  | succ n ih170 =>
                    intro l7_170 l6_170 s3_170 s4_170 s5_170 s6_170 s12_170 a0_170 a14_170 H locs ls if0_170 if1_170 if2_170 if3_170 if4_170 if5_170 if6_170 if7_170 if8_170 if9_170 hcr hm170 hP hS hl
                    refine lv_iload hx hb dX9_prune_170 (lv_at hl 0 rfl) ?_
                    refine lv_bipush (v := 16) hx hb dX9_prune_172 (by decide) ?_
                    refine lv_icmp_ge (tgt := 227) hx hb dX9_prune_174 (by decide) (fun c_56 => ?_) (fun c_56 => ?_)
                    · skip
                      have ic_56 := iv_le c_56
                      have k_57 : l6_170.toInt = 1 + r_29.toInt := (cn_eq hcr hcs (by omega))
                      refine lv_iconst (v := 0) hx hb dX9_prune_227 (by decide) ?_
                      refine lv_istore (lv' := [(7, .int (0 : Int32)), (6, .int l6_170), (5, .int v_35), (4, .int r_29), (2, .long r_25), (0, .ref o), (1, .int p0)]) hx hb dX9_prune_228 hl (by decide) rfl (fun ls hl => ?_)
                      have loop230 : ∀ (n : Nat) (l7_230 : Int32) (l6_230 : Int32) (s3_230 : Int32) (s4_230 : Int32) (s5_230 : Int32) (s6_230 : Int32) (s12_230 : Int32) (a0_230 : Nat → Int32) (a14_230 : Nat → Int32) (H : Heap) (locs : List Loc) (ls : Array Slot), (0 ≤ l7_230.toInt) → (l7_230.toInt ≤ x32_26.toInt) → (l6_230.toInt = 1 + r_29.toInt + l7_230.toInt) → (0 ≤ s3_230.toInt) → (s3_230.toInt ≤ 1) → (0 ≤ s6_230.toInt) → (s6_230.toInt ≤ 1) → (0 ≤ s12_230.toInt) → (s12_230.toInt ≤ 8) → (x32_26.toInt - l7_230.toInt : Int).toNat < n → va_P (dC, dI) vwCl (rw_W o c kc (rU (rU (rU (rU (rU (rU (rU (rU (rU (rU (rU (rU (rU st 3 s3_230) 4 s4_230) 5 s5_230) 6 s6_230) 12 s12_230) 13 jt_40) 16 x16_4) 17 x17_4) 21 x21_4) 22 x22_4) 24 x24_4) 26 x26_4) 32 x32_26) (rU (rU lg 23 y23_4) 27 y27_4) (rU (rU (rU (rU (rU (rU ai 0 a0_230) 14 a14_230) 19 f19_4) 20 f20_4) 25 f25_4) 31 f31_26) (rU (rU al 18 g18_4) 28 g28_24)) H → va_S A s.heap H locs → lv_has ls 10 [(7, .int l7_230), (6, .int l6_230), (5, .int v_35), (4, .int r_29), (2, .long r_25), (0, .ref o), (1, .int p0)] → W p l e (headSpec wsX9_prune ({ frames := 8, cells := 0, slots := 0, locals := 181 })).room s m ([.ref o, .int p0] : List Value).toArray below meth cM H locs 0 0 (MQ below (va_Qi (fun r (u : Int32) => r = u) (fun u t => ∃ (x3 : Int32) (x4 : Int32) (x5 : Int32) (x6 : Int32) (x7 : Int32) (x12 : Int32) (x13 : Int32) (x15 : Int32) (x16 : Int32) (x17 : Int32) (x21 : Int32) (x22 : Int32) (x24 : Int32) (x26 : Int32) (x30 : Int32) (x32 : Int32) (y23 : Int64) (y27 : Int64) (f0 : Nat → Int32) (f14 : Nat → Int32) (f19 : Nat → Int32) (f20 : Nat → Int32) (f25 : Nat → Int32) (f31 : Nat → Int32) (g18 : Nat → Int64) (g28 : Nat → Int64) (g29 : Nat → Int64), (0 ≤ x3.toInt) ∧ (x3.toInt ≤ 1) ∧ (0 ≤ x6.toInt) ∧ (x6.toInt ≤ 1) ∧ (0 ≤ x7.toInt) ∧ (x7.toInt ≤ 1) ∧ (0 ≤ x12.toInt) ∧ (x12.toInt ≤ 8) ∧ (0 ≤ x15.toInt) ∧ (x15.toInt ≤ 128) ∧ (0 ≤ x16.toInt) ∧ (x16.toInt ≤ 128) ∧ (0 ≤ x17.toInt) ∧ (x17.toInt ≤ 1) ∧ (-1 ≤ x21.toInt) ∧ (x21.toInt ≤ 127) ∧ (0 ≤ x22.toInt) ∧ (x22.toInt ≤ 1000000) ∧ (0 ≤ x24.toInt) ∧ (x24.toInt ≤ 1) ∧ (0 ≤ x26.toInt) ∧ (x26.toInt ≤ 2000000) ∧ (0 ≤ x30.toInt) ∧ (x30.toInt ≤ 128) ∧ (0 ≤ x32.toInt) ∧ (x32.toInt ≤ 128) ∧ (aR f25 130 (0) 127) ∧ (aR f31 128 (0) 127) ∧ va_P (dC, dI) vwCl (rw_W o c kc (rU (rU (rU (rU (rU (rU (rU (rU (rU (rU (rU (rU (rU (rU (rU (rU st 3 x3) 4 x4) 5 x5) 6 x6) 7 x7) 12 x12) 13 x13) 15 x15) 16 x16) 17 x17) 21 x21) 22 x22) 24 x24) 26 x26) 30 x30) 32 x32) (rU (rU lg 23 y23) 27 y27) (rU (rU (rU (rU (rU (rU ai 0 f0) 14 f14) 19 f19) 20 f20) 25 f25) 31 f31) (rU (rU (rU al 18 g18) 28 g28) 29 g29)) t.heap) A) ([.ref o, .int p0] : List Value).toArray s 0 0 A) (F0 m 230 ls []) := by
                        intro n
                        induction n with
                        | zero => intro l7_230 l6_230 s3_230 s4_230 s5_230 s6_230 s12_230 a0_230 a14_230 H locs ls if0_230 if1_230 if2_230 if3_230 if4_230 if5_230 if6_230 if7_230 if8_230 hm; exact absurd hm (Nat.not_lt_zero _)
                        | succ n ih230 =>
                          intro l7_230 l6_230 s3_230 s4_230 s5_230 s6_230 s12_230 a0_230 a14_230 H locs ls if0_230 if1_230 if2_230 if3_230 if4_230 if5_230 if6_230 if7_230 if8_230 hm230 hP hS hl
                          refine lv_iload hx hb dX9_prune_230 (lv_at hl 0 rfl) ?_
                          refine lv_aload_n hx hb dX9_prune_232 rfl (lv_at hl 5 rfl) ?_
                          refine va_get (D := (dC, dI)) (ci := 11) (v := .int x32_26) (C := RX9) (T := TX9) (N := 38) hx hb hts hin9 hown hK hP 0 rfl rfl 32 (by decide) (hts (.fieldLink RX9 328 "BlockLogModel" "kept" "I") (by decide +kernel)) (fun _ h9 => h9) rfl dX9_prune_233 ?_
                          refine lv_icmp_ge (tgt := 321) hx hb dX9_prune_236 (by decide) (fun c_58 => ?_) (fun c_58 => ?_)
                          · skip
                            have ic_58 := iv_le c_58
                            refine lv_aload_n hx hb dX9_prune_321 rfl (lv_at hl 5 rfl) ?_
                            refine lv_iload hx hb dX9_prune_322 (lv_at hl 2 rfl) ?_
                            have hFc := vfree (rw_D hD : va_D A (rw_W o c kc (rU (rU (rU (rU (rU (rU (rU (rU (rU (rU (rU (rU (rU st 3 s3_230) 4 s4_230) 5 s5_230) 6 s6_230) 12 s12_230) 13 jt_40) 16 x16_4) 17 x17_4) 21 x21_4) 22 x22_4) 24 x24_4) 26 x26_4) 32 x32_26) (rU (rU lg 23 y23_4) 27 y27_4) (rU (rU (rU (rU (rU (rU ai 0 a0_230) 14 a14_230) 19 f19_4) 20 f20_4) 25 f25_4) 31 f31_26) (rU (rU al 18 g18_4) 28 g28_24))) hS hA
                            refine va_callv (va_runV (As := [.int v_35]) (rest := []) ⟨hx, hb, hml, hown, hts⟩ (v_X9_head l dC dI o c kc (rU (rU (rU (rU (rU (rU (rU (rU (rU (rU (rU (rU (rU st 3 s3_230) 4 s4_230) 5 s5_230) 6 s6_230) 12 s12_230) 13 jt_40) 16 x16_4) 17 x17_4) 21 x21_4) 22 x22_4) 24 x24_4) 26 x26_4) 32 x32_26) (rU (rU lg 23 y23_4) 27 y27_4) (rU (rU (rU (rU (rU (rU ai 0 a0_230) 14 a14_230) 19 f19_4) 20 f20_4) 25 f25_4) 31 f31_26) (rU (rU al 18 g18_4) 28 g28_24) v_35 _ (show 0 ≤ s3_230.toInt by omega) (show s3_230.toInt ≤ 1 by omega) (show 0 ≤ s6_230.toInt by omega) (show s6_230.toInt ≤ 1 by omega) (show 0 ≤ s12_230.toInt by omega) (show s12_230.toInt ≤ 8 by omega) (by omega) (by omega)) (cwV 1 hts gX9_prune_X9_head rfl rfl rfl (by decide +kernel) ⟨Nat.le_of_ble_eq_true rfl, Nat.le_of_ble_eq_true rfl⟩) ⟨fun a U g mk q => by obtain ⟨q0, q1, qP, qK, qD⟩ := q; exact ⟨q0, q1, qP, va_K.moved (u := U) (U := U.calling g mk a) (Vm.Alike.refl U.vm) qK, qD⟩, va_recv hK hP (ci := 11) (q := (RX9, TX9, 38)) rfl (q0 := 0) rfl, fun U hU hW => ⟨rfl, by rw [hU], by rw [hU]; exact hP, va_K.moved hW.alike hK, rw_D (hD.weaken (fun _ _ _ _ => trivial))⟩⟩ rfl rfl hl.1 rfl (lv_room (Nat.le_of_ble_eq_true rfl)) dX9_prune_324 ⟨Nat.le_of_ble_eq_true rfl, Nat.le_of_ble_eq_true rfl⟩) hS (fun q _ h => hFc q h) hFc (fun ur_59 t H1 locs ht hvm er_59 hB hz1 hk1 hS => ?_)
                            obtain ⟨x3_59, x4_59, x5_59, x6_59, x12_59, f0_59, f14_59, k_60, k_61, k_62, k_63, k_64, k_65, hP1⟩ := hB
                            rw [ht] at hP1
                            clear hFc hz1 hk1 hvm hP
                            subst ht
                            have hP := hP1
                            clear hP1
                            generalize t.heap = H at hP hS ⊢
                            have hP : va_P (dC, dI) vwCl (rw_W o c kc (rU (rU (rU (rU (rU (rU (rU (rU (rU (rU (rU (rU (rU st 3 x3_59) 4 x4_59) 5 x5_59) 6 x6_59) 12 x12_59) 13 jt_40) 16 x16_4) 17 x17_4) 21 x21_4) 22 x22_4) 24 x24_4) 26 x26_4) 32 x32_26) (rU (rU lg 23 y23_4) 27 y27_4) (rU (rU (rU (rU (rU (rU ai 0 f0_59) 14 f14_59) 19 f19_4) 20 f20_4) 25 f25_4) 31 f31_26) (rU (rU al 18 g18_4) 28 g28_24)) H := hP
                            have k_60 : 0 ≤ x3_59.toInt := k_60
                            have k_61 : x3_59.toInt ≤ 1 := k_61
                            have k_62 : 0 ≤ x6_59.toInt := k_62
                            have k_63 : x6_59.toInt ≤ 1 := k_63
                            have k_64 : 0 ≤ x12_59.toInt := k_64
                            have k_65 : x12_59.toInt ≤ 8 := k_65
                            have join327 : ∀ (js7_327 : Int32) (js15_327 : Int32) (H : Heap) (locs : List Loc) (ls : Array Slot), (0 ≤ js7_327.toInt) → (js7_327.toInt ≤ 1) → (0 ≤ js15_327.toInt) → (js15_327.toInt ≤ 128) → va_P (dC, dI) vwCl (rw_W o c kc (rU (rU (rU (rU (rU (rU (rU (rU (rU (rU (rU (rU (rU (rU (rU st 3 x3_59) 4 x4_59) 5 x5_59) 6 x6_59) 7 js7_327) 12 x12_59) 13 jt_40) 15 js15_327) 16 x16_4) 17 x17_4) 21 x21_4) 22 x22_4) 24 x24_4) 26 x26_4) 32 x32_26) (rU (rU lg 23 y23_4) 27 y27_4) (rU (rU (rU (rU (rU (rU ai 0 f0_59) 14 f14_59) 19 f19_4) 20 f20_4) 25 f25_4) 31 f31_26) (rU (rU al 18 g18_4) 28 g28_24)) H → va_S A s.heap H locs → lv_has ls 10 [(7, .int l7_230), (6, .int l6_230), (5, .int v_35), (4, .int r_29), (2, .long r_25), (0, .ref o), (1, .int p0)] → W p l e (headSpec wsX9_prune ({ frames := 8, cells := 0, slots := 0, locals := 181 })).room s m ([.ref o, .int p0] : List Value).toArray below meth cM H locs 0 0 (MQ below (va_Qi (fun r (u : Int32) => r = u) (fun u t => ∃ (x3 : Int32) (x4 : Int32) (x5 : Int32) (x6 : Int32) (x7 : Int32) (x12 : Int32) (x13 : Int32) (x15 : Int32) (x16 : Int32) (x17 : Int32) (x21 : Int32) (x22 : Int32) (x24 : Int32) (x26 : Int32) (x30 : Int32) (x32 : Int32) (y23 : Int64) (y27 : Int64) (f0 : Nat → Int32) (f14 : Nat → Int32) (f19 : Nat → Int32) (f20 : Nat → Int32) (f25 : Nat → Int32) (f31 : Nat → Int32) (g18 : Nat → Int64) (g28 : Nat → Int64) (g29 : Nat → Int64), (0 ≤ x3.toInt) ∧ (x3.toInt ≤ 1) ∧ (0 ≤ x6.toInt) ∧ (x6.toInt ≤ 1) ∧ (0 ≤ x7.toInt) ∧ (x7.toInt ≤ 1) ∧ (0 ≤ x12.toInt) ∧ (x12.toInt ≤ 8) ∧ (0 ≤ x15.toInt) ∧ (x15.toInt ≤ 128) ∧ (0 ≤ x16.toInt) ∧ (x16.toInt ≤ 128) ∧ (0 ≤ x17.toInt) ∧ (x17.toInt ≤ 1) ∧ (-1 ≤ x21.toInt) ∧ (x21.toInt ≤ 127) ∧ (0 ≤ x22.toInt) ∧ (x22.toInt ≤ 1000000) ∧ (0 ≤ x24.toInt) ∧ (x24.toInt ≤ 1) ∧ (0 ≤ x26.toInt) ∧ (x26.toInt ≤ 2000000) ∧ (0 ≤ x30.toInt) ∧ (x30.toInt ≤ 128) ∧ (0 ≤ x32.toInt) ∧ (x32.toInt ≤ 128) ∧ (aR f25 130 (0) 127) ∧ (aR f31 128 (0) 127) ∧ va_P (dC, dI) vwCl (rw_W o c kc (rU (rU (rU (rU (rU (rU (rU (rU (rU (rU (rU (rU (rU (rU (rU (rU st 3 x3) 4 x4) 5 x5) 6 x6) 7 x7) 12 x12) 13 x13) 15 x15) 16 x16) 17 x17) 21 x21) 22 x22) 24 x24) 26 x26) 30 x30) 32 x32) (rU (rU lg 23 y23) 27 y27) (rU (rU (rU (rU (rU (rU ai 0 f0) 14 f14) 19 f19) 20 f20) 25 f25) 31 f31) (rU (rU (rU al 18 g18) 28 g28) 29 g29)) t.heap) A) ([.ref o, .int p0] : List Value).toArray s 0 0 A) (F0 m 346 ls []) := by
                              intro js7_327 js15_327 H locs ls ij0_327 ij1_327 ij2_327 ij3_327 hP hS hl
                              refine lv_aload_n hx hb dX9_prune_346 rfl (lv_at hl 5 rfl) ?_
                              refine lv_bipush (v := 16) hx hb dX9_prune_347 (by decide) ?_
                              refine lv_iconst (v := 1) hx hb dX9_prune_349 (by decide) ?_
                              refine lv_iload hx hb dX9_prune_350 (lv_at hl 2 rfl) ?_
                              refine lv_isub hx hb dX9_prune_352 ?_
                              refine lv_topi (fun v_66 ev_66 => ?_)
                              have hv_66 : v_66.toInt = 1 - v_35.toInt := by rw [ev_66]; exact (iv_sub (by omega) (by omega)).trans (by omega)
                              refine lv_imul hx hb dX9_prune_353 ?_
                              refine lv_topi (fun v_67 ev_67 => ?_)
                              have rg7 := iv_rng v_66
                              have hv_67 : v_67.toInt = 16 * v_66.toInt := by rw [ev_67]; exact (iv_mulc z_16 (by omega) (by omega)).trans (by omega)
                              refine lv_bipush (v := 16) hx hb dX9_prune_354 (by decide) ?_
                              have hFc := vfree (rw_D hD : va_D A (rw_W o c kc (rU (rU (rU (rU (rU (rU (rU (rU (rU (rU (rU (rU (rU (rU (rU st 3 x3_59) 4 x4_59) 5 x5_59) 6 x6_59) 7 js7_327) 12 x12_59) 13 jt_40) 15 js15_327) 16 x16_4) 17 x17_4) 21 x21_4) 22 x22_4) 24 x24_4) 26 x26_4) 32 x32_26) (rU (rU lg 23 y23_4) 27 y27_4) (rU (rU (rU (rU (rU (rU ai 0 f0_59) 14 f14_59) 19 f19_4) 20 f20_4) 25 f25_4) 31 f31_26) (rU (rU al 18 g18_4) 28 g28_24))) hS hA
                              refine va_callv (va_runV (As := [.int v_67, .int (16 : Int32)]) (rest := []) ⟨hx, hb, hml, hown, hts⟩ (v_X9_erase l dC dI o c kc (rU (rU (rU (rU (rU (rU (rU (rU (rU (rU (rU (rU (rU (rU (rU st 3 x3_59) 4 x4_59) 5 x5_59) 6 x6_59) 7 js7_327) 12 x12_59) 13 jt_40) 15 js15_327) 16 x16_4) 17 x17_4) 21 x21_4) 22 x22_4) 24 x24_4) 26 x26_4) 32 x32_26) (rU (rU lg 23 y23_4) 27 y27_4) (rU (rU (rU (rU (rU (rU ai 0 f0_59) 14 f14_59) 19 f19_4) 20 f20_4) 25 f25_4) 31 f31_26) (rU (rU al 18 g18_4) 28 g28_24) v_67 (16 : Int32) _ (show 0 ≤ x3_59.toInt by omega) (show x3_59.toInt ≤ 1 by omega) (show 0 ≤ x6_59.toInt by omega) (show x6_59.toInt ≤ 1 by omega) (show 0 ≤ x12_59.toInt by omega) (show x12_59.toInt ≤ 8 by omega) (by omega) (by omega) (by omega) (by omega)) (cwV 2 hts gX9_prune_X9_erase rfl rfl rfl (by decide +kernel) ⟨Nat.le_of_ble_eq_true rfl, Nat.le_of_ble_eq_true rfl⟩) ⟨fun a U g mk q => by obtain ⟨q0, q1, qP, qK, qD⟩ := q; exact ⟨q0, q1, qP, va_K.moved (u := U) (U := U.calling g mk a) (Vm.Alike.refl U.vm) qK, qD⟩, va_recv hK hP (ci := 11) (q := (RX9, TX9, 38)) rfl (q0 := 0) rfl, fun U hU hW => ⟨rfl, by rw [hU], by rw [hU]; exact hP, va_K.moved hW.alike hK, rw_D (hD.weaken (fun _ _ _ _ => trivial))⟩⟩ rfl rfl hl.1 rfl (lv_room (Nat.le_of_ble_eq_true rfl)) dX9_prune_356 ⟨Nat.le_of_ble_eq_true rfl, Nat.le_of_ble_eq_true rfl⟩) hS (fun q _ h => hFc q h) hFc (fun ur_68 t H1 locs ht hvm er_68 hB hz1 hk1 hS => ?_)
                              obtain ⟨x3_68, x4_68, x5_68, x6_68, x12_68, f0_68, k_69, k_70, k_71, k_72, k_73, k_74, hP1⟩ := hB
                              rw [ht] at hP1
                              clear hFc hz1 hk1 hvm hP
                              subst ht
                              have hP := hP1
                              clear hP1
                              generalize t.heap = H at hP hS ⊢
                              have hP : va_P (dC, dI) vwCl (rw_W o c kc (rU (rU (rU (rU (rU (rU (rU (rU (rU (rU (rU (rU (rU (rU (rU st 3 x3_68) 4 x4_68) 5 x5_68) 6 x6_68) 7 js7_327) 12 x12_68) 13 jt_40) 15 js15_327) 16 x16_4) 17 x17_4) 21 x21_4) 22 x22_4) 24 x24_4) 26 x26_4) 32 x32_26) (rU (rU lg 23 y23_4) 27 y27_4) (rU (rU (rU (rU (rU (rU ai 0 f0_68) 14 f14_59) 19 f19_4) 20 f20_4) 25 f25_4) 31 f31_26) (rU (rU al 18 g18_4) 28 g28_24)) H := hP
                              have k_69 : 0 ≤ x3_68.toInt := k_69
                              have k_70 : x3_68.toInt ≤ 1 := k_70
                              have k_71 : 0 ≤ x6_68.toInt := k_71
                              have k_72 : x6_68.toInt ≤ 1 := k_72
                              have k_73 : 0 ≤ x12_68.toInt := k_73
                              have k_74 : x12_68.toInt ≤ 8 := k_74
                              refine lv_aload_n hx hb dX9_prune_359 rfl (lv_at hl 5 rfl) ?_
                              refine va_get (D := (dC, dI)) (ci := 11) (v := .int x6_68) (C := RX9) (T := TX9) (N := 38) hx hb hts hin9 hown hK hP 0 rfl rfl 6 (by decide) (hts (.fieldLink RX9 108 "BlockLogModel" "dark" "Z") (by decide +kernel)) (fun _ h9 => h9) rfl dX9_prune_360 ?_
                              refine lv_if_eq (tgt := 371) hx hb dX9_prune_363 (by decide) (fun c_75 => ?_) (fun c_75 => ?_)
                              · skip
                                have ic_75 := iv_eq c_75
                                refine lv_aload_n hx hb dX9_prune_371 rfl (lv_at hl 5 rfl) ?_
                                have hFc := vfree (rw_D hD : va_D A (rw_W o c kc (rU (rU (rU (rU (rU (rU (rU (rU (rU (rU (rU (rU (rU (rU (rU st 3 x3_68) 4 x4_68) 5 x5_68) 6 x6_68) 7 js7_327) 12 x12_68) 13 jt_40) 15 js15_327) 16 x16_4) 17 x17_4) 21 x21_4) 22 x22_4) 24 x24_4) 26 x26_4) 32 x32_26) (rU (rU lg 23 y23_4) 27 y27_4) (rU (rU (rU (rU (rU (rU ai 0 f0_68) 14 f14_59) 19 f19_4) 20 f20_4) 25 f25_4) 31 f31_26) (rU (rU al 18 g18_4) 28 g28_24))) hS hA
                                refine va_calli (va_runV (As := []) (rest := []) ⟨hx, hb, hml, hown, hts⟩ (v_X9_sweep l dC dI o c kc (rU (rU (rU (rU (rU (rU (rU (rU (rU (rU (rU (rU (rU (rU (rU st 3 x3_68) 4 x4_68) 5 x5_68) 6 x6_68) 7 js7_327) 12 x12_68) 13 jt_40) 15 js15_327) 16 x16_4) 17 x17_4) 21 x21_4) 22 x22_4) 24 x24_4) 26 x26_4) 32 x32_26) (rU (rU lg 23 y23_4) 27 y27_4) (rU (rU (rU (rU (rU (rU ai 0 f0_68) 14 f14_59) 19 f19_4) 20 f20_4) 25 f25_4) 31 f31_26) (rU (rU al 18 g18_4) 28 g28_24)  _ (show 1 ≤ (st 1).toInt by omega) (show (st 1).toInt ≤ 65536 by omega) (show 0 ≤ x3_68.toInt by omega) (show x3_68.toInt ≤ 1 by omega) (show 0 ≤ x6_68.toInt by omega) (show x6_68.toInt ≤ 1 by omega) (show 0 ≤ js7_327.toInt by omega) (show js7_327.toInt ≤ 1 by omega) (show 0 ≤ x12_68.toInt by omega) (show x12_68.toInt ≤ 8 by omega) (show 0 ≤ js15_327.toInt by omega) (show js15_327.toInt ≤ 128 by omega) (show 0 ≤ x16_4.toInt by omega) (show x16_4.toInt ≤ 128 by omega) (show 0 ≤ x17_4.toInt by omega) (show x17_4.toInt ≤ 1 by omega) (show -1 ≤ x21_4.toInt by omega) (show x21_4.toInt ≤ 127 by omega) (show 0 ≤ x22_4.toInt by omega) (show x22_4.toInt ≤ 1000000 by omega) (show 0 ≤ x24_4.toInt by omega) (show x24_4.toInt ≤ 1 by omega) (show 0 ≤ x26_4.toInt by omega) (show x26_4.toInt ≤ 2000000 by omega) (show 0 ≤ (st 30).toInt by omega) (show (st 30).toInt ≤ 128 by omega) (show aR f25_4 130 (0) 127 from hR25)) (cwV 0 hts gX9_prune_X9_sweep rfl rfl rfl (by decide +kernel) ⟨Nat.le_of_ble_eq_true rfl, Nat.le_of_ble_eq_true rfl⟩) ⟨fun a U g mk q => by obtain ⟨q0, q1, qP, qK, qD⟩ := q; exact ⟨q0, q1, qP, va_K.moved (u := U) (U := U.calling g mk a) (Vm.Alike.refl U.vm) qK, qD⟩, va_recv hK hP (ci := 11) (q := (RX9, TX9, 38)) rfl (q0 := 0) rfl, fun U hU hW => ⟨rfl, by rw [hU], by rw [hU]; exact hP, va_K.moved hW.alike hK, rw_D (hD.weaken (fun _ _ _ _ => trivial))⟩⟩ rfl rfl hl.1 rfl (lv_room (Nat.le_of_ble_eq_true rfl)) dX9_prune_372 ⟨Nat.le_of_ble_eq_true rfl, Nat.le_of_ble_eq_true rfl⟩) hS (fun q _ h => hFc q h) hFc (fun r_76 ur_76 t H1 locs ht hvm er_76 hB hz1 hk1 hS => ?_)
                                subst er_76
                                obtain ⟨x3_76, x4_76, x5_76, x6_76, x12_76, x16_76, x17_76, x21_76, x22_76, x24_76, x26_76, x30_76, y23_76, y27_76, f0_76, f19_76, f20_76, f25_76, g18_76, g28_76, g29_76, k_77, k_78, k_79, k_80, k_81, k_82, k_83, k_84, k_85, k_86, k_87, k_88, k_89, k_90, k_91, k_92, k_93, k_94, k_95, k_96, hR25, hP1⟩ := hB
                                rw [ht] at hP1
                                clear hFc hz1 hk1 hvm hP
                                subst ht
                                have hP := hP1
                                clear hP1
                                generalize t.heap = H at hP hS ⊢
                                have hP : va_P (dC, dI) vwCl (rw_W o c kc (rU (rU (rU (rU (rU (rU (rU (rU (rU (rU (rU (rU (rU (rU (rU (rU st 3 x3_76) 4 x4_76) 5 x5_76) 6 x6_76) 7 js7_327) 12 x12_76) 13 jt_40) 15 js15_327) 16 x16_76) 17 x17_76) 21 x21_76) 22 x22_76) 24 x24_76) 26 x26_76) 30 x30_76) 32 x32_26) (rU (rU lg 23 y23_76) 27 y27_76) (rU (rU (rU (rU (rU (rU ai 0 f0_76) 14 f14_59) 19 f19_76) 20 f20_76) 25 f25_76) 31 f31_26) (rU (rU (rU al 18 g18_76) 28 g28_76) 29 g29_76)) H := hP
                                have k_77 : 0 ≤ x3_76.toInt := k_77
                                have k_78 : x3_76.toInt ≤ 1 := k_78
                                have k_79 : 0 ≤ x6_76.toInt := k_79
                                have k_80 : x6_76.toInt ≤ 1 := k_80
                                have k_81 : 0 ≤ x12_76.toInt := k_81
                                have k_82 : x12_76.toInt ≤ 8 := k_82
                                have k_83 : 0 ≤ x16_76.toInt := k_83
                                have k_84 : x16_76.toInt ≤ 128 := k_84
                                have k_85 : 0 ≤ x17_76.toInt := k_85
                                have k_86 : x17_76.toInt ≤ 1 := k_86
                                have k_87 : -1 ≤ x21_76.toInt := k_87
                                have k_88 : x21_76.toInt ≤ 127 := k_88
                                have k_89 : 0 ≤ x22_76.toInt := k_89
                                have k_90 : x22_76.toInt ≤ 1000000 := k_90
                                have k_91 : 0 ≤ x24_76.toInt := k_91
                                have k_92 : x24_76.toInt ≤ 1 := k_92
                                have k_93 : 0 ≤ x26_76.toInt := k_93
                                have k_94 : x26_76.toInt ≤ 2000000 := k_94
                                have k_95 : 0 ≤ x30_76.toInt := k_95
                                have k_96 : x30_76.toInt ≤ 128 := k_96
                                have hR25 : aR f25_76 130 (0) 127 := hR25
                                exact W.iret hx hb hr (fun t ht hW => ⟨⟨_, _, rfl, rfl, x3_76, x4_76, x5_76, x6_76, js7_327, x12_76, jt_40, js15_327, x16_76, x17_76, x21_76, x22_76, x24_76, x26_76, x30_76, x32_26, y23_76, y27_76, f0_76, f14_59, f19_76, f20_76, f25_76, f31_26, g18_76, g28_76, g29_76, (by omega), (by omega), (by omega), (by omega), (by omega), (by omega), (by omega), (by omega), (by omega), (by omega), (by omega), (by omega), (by omega), (by omega), (by omega), (by omega), (by omega), (by omega), (by omega), (by omega), (by omega), (by omega), (by omega), (by omega), (by omega), (by omega), hR25, hR31, by rw [ht]; exact hP⟩, hS.F ht⟩) hS.2.2 dX9_prune_375
                              · skip
                                have ic_75 := iv_ne c_75
                                refine lv_bipush (v := (-4)) hx hb dX9_prune_366 (by decide) ?_
                                refine lv_goto (tgt := 375) hx hb dX9_prune_368 (by decide) ?_
                                exact W.iret hx hb hr (fun t ht hW => ⟨⟨_, _, rfl, rfl, x3_68, x4_68, x5_68, x6_68, js7_327, x12_68, jt_40, js15_327, x16_4, x17_4, x21_4, x22_4, x24_4, x26_4, st 30, x32_26, y23_4, y27_4, f0_68, f14_59, f19_4, f20_4, f25_4, f31_26, g18_4, g28_24, al 29, (by omega), (by omega), (by omega), (by omega), (by omega), (by omega), (by omega), (by omega), (by omega), (by omega), (by omega), (by omega), (by omega), (by omega), (by omega), (by omega), (by omega), (by omega), (by omega), (by omega), (by omega), (by omega), (by omega), (by omega), (by omega), (by omega), hR25, hR31, by rw [ht]; exact hP⟩, hS.F ht⟩) hS.2.2 dX9_prune_375
                            refine lv_aload_n hx hb dX9_prune_327 rfl (lv_at hl 5 rfl) ?_
                            refine va_get (D := (dC, dI)) (ci := 11) (v := .int x6_59) (C := RX9) (T := TX9) (N := 38) hx hb hts hin9 hown hK hP 0 rfl rfl 6 (by decide) (hts (.fieldLink RX9 108 "BlockLogModel" "dark" "Z") (by decide +kernel)) (fun _ h9 => h9) rfl dX9_prune_328 ?_
                            refine lv_if_ne (tgt := 346) hx hb dX9_prune_331 (by decide) (fun c_97 => ?_) (fun c_97 => ?_)
                            · skip
                              have ic_97 := iv_ne c_97
                              exact join327 (st 7) (st 15) _ _ _ (by omega) (by omega) (by omega) (by omega) hP hS (lv_sub hl [0, 1, 2, 3, 4, 5, 6] rfl)
                            · skip
                              have ic_97 := iv_eq c_97
                              refine lv_aload_n hx hb dX9_prune_334 rfl (lv_at hl 5 rfl) ?_
                              refine lv_iload hx hb dX9_prune_335 (lv_at hl 2 rfl) ?_
                              refine va_put (D := (dC, dI)) (ci := 11) (v := .int v_35) (ty := .int) (C := RX9) (T := TX9) (N := 38) hx hb hts hin9 tyX9 tyX9_ok nmX9 hown hK hP (rw_D hD) hS 0 rfl rfl 7 (by decide) (hts (.fieldLink RX9 76 "BlockLogModel" "area" "I") (by decide +kernel)) (fun _ h9 => h9) rfl (by decide +kernel) rfl rfl (Nat.le_of_ble_eq_true rfl) dX9_prune_337 (fun H locs hP _ hS => ?_)
                              have hP : va_P (dC, dI) vwCl (rw_W o c kc (rU (rU (rU (rU (rU (rU (rU (rU (rU (rU (rU (rU (rU (rU st 3 x3_59) 4 x4_59) 5 x5_59) 6 x6_59) 7 v_35) 12 x12_59) 13 jt_40) 16 x16_4) 17 x17_4) 21 x21_4) 22 x22_4) 24 x24_4) 26 x26_4) 32 x32_26) (rU (rU lg 23 y23_4) 27 y27_4) (rU (rU (rU (rU (rU (rU ai 0 f0_59) 14 f14_59) 19 f19_4) 20 f20_4) 25 f25_4) 31 f31_26) (rU (rU al 18 g18_4) 28 g28_24)) H := hP
                              refine lv_aload_n hx hb dX9_prune_340 rfl (lv_at hl 5 rfl) ?_
                              refine lv_iload hx hb dX9_prune_341 (lv_at hl 1 rfl) ?_
                              refine va_put (D := (dC, dI)) (ci := 11) (v := .int l6_230) (ty := .int) (C := RX9) (T := TX9) (N := 38) hx hb hts hin9 tyX9 tyX9_ok nmX9 hown hK hP (rw_D hD) hS 0 rfl rfl 15 (by decide) (hts (.fieldLink RX9 157 "BlockLogModel" "rowsNow" "I") (by decide +kernel)) (fun _ h9 => h9) rfl (by decide +kernel) rfl rfl (Nat.le_of_ble_eq_true rfl) dX9_prune_343 (fun H locs hP _ hS => ?_)
                              have hP : va_P (dC, dI) vwCl (rw_W o c kc (rU (rU (rU (rU (rU (rU (rU (rU (rU (rU (rU (rU (rU (rU (rU st 3 x3_59) 4 x4_59) 5 x5_59) 6 x6_59) 7 v_35) 12 x12_59) 13 jt_40) 15 l6_230) 16 x16_4) 17 x17_4) 21 x21_4) 22 x22_4) 24 x24_4) 26 x26_4) 32 x32_26) (rU (rU lg 23 y23_4) 27 y27_4) (rU (rU (rU (rU (rU (rU ai 0 f0_59) 14 f14_59) 19 f19_4) 20 f20_4) 25 f25_4) 31 f31_26) (rU (rU al 18 g18_4) 28 g28_24)) H := hP
                              exact join327 v_35 l6_230 _ _ _ (by omega) (by omega) (by omega) (by omega) hP hS (lv_sub hl [0, 1, 2, 3, 4, 5, 6] rfl)
                          · skip
                            have ic_58 := iv_nle c_58
                            refine lv_aload_n hx hb dX9_prune_239 rfl (lv_at hl 5 rfl) ?_
                            refine lv_aload_n hx hb dX9_prune_240 rfl (lv_at hl 5 rfl) ?_
                            refine va_get (D := (dC, dI)) (ci := 11) (v := .int (st 7)) (C := RX9) (T := TX9) (N := 38) hx hb hts hin9 hown hK hP 0 rfl rfl 7 (by decide) (hts (.fieldLink RX9 76 "BlockLogModel" "area" "I") (by decide +kernel)) (fun _ h9 => h9) rfl dX9_prune_241 ?_
                            refine lv_aload_n hx hb dX9_prune_244 rfl (lv_at hl 5 rfl) ?_
                            refine va_get (D := (dC, dI)) (ci := 11) (v := .ref (c 31)) (C := RX9) (T := TX9) (N := 38) hx hb hts hin9 hown hK hP 0 rfl rfl 31 (by decide) (hts (.fieldLink RX9 46 "BlockLogModel" "keptRow" "[I") (by decide +kernel)) (fun _ h9 => h9) rfl dX9_prune_245 ?_
                            refine lv_iload hx hb dX9_prune_248 (lv_at hl 0 rfl) ?_
                            refine va_iald (f := f31_26) hx hb hK hP 12 11 rfl rfl (iv_in (i := l7_230) (by omega) (by omega)) dX9_prune_250 ?_
                            refine lv_topi (fun v_98 ev_98 => ?_)
                            have k_99 : 0 ≤ v_98.toInt ∧ v_98.toInt ≤ 127 := aR_get hR31 (by omega) (by omega) ev_98
                            clear ev_98
                            refine vp_callSi (va_Run.run (va_runV (As := [.int (st 7), .int v_98]) (rest := []) ⟨hx, hb, hml, hown, hts⟩ (v_X9_rowPlace l dC dI o c kc (rU (rU (rU (rU (rU (rU (rU (rU (rU (rU (rU (rU (rU st 3 s3_230) 4 s4_230) 5 s5_230) 6 s6_230) 12 s12_230) 13 jt_40) 16 x16_4) 17 x17_4) 21 x21_4) 22 x22_4) 24 x24_4) 26 x26_4) 32 x32_26) (rU (rU lg 23 y23_4) 27 y27_4) (rU (rU (rU (rU (rU (rU ai 0 a0_230) 14 a14_230) 19 f19_4) 20 f20_4) 25 f25_4) 31 f31_26) (rU (rU al 18 g18_4) 28 g28_24) (st 7) v_98 (by omega) (by omega) (by omega) (by omega)) (cwV 2 hts gX9_prune_X9_rowPlace rfl rfl rfl (by decide +kernel) ⟨Nat.le_of_ble_eq_true rfl, Nat.le_of_ble_eq_true rfl⟩) ⟨fun a U g mk q => by obtain ⟨q0, qP, qK⟩ := q; exact ⟨q0, qP, va_K.moved (u := U) (U := U.calling g mk a) (Vm.Alike.refl U.vm) qK⟩, va_recv hK hP (ci := 11) (q := (RX9, TX9, 38)) rfl (q0 := 0) rfl, fun U hU hW => ⟨rfl, by rw [hU]; exact hP, va_K.moved hW.alike hK⟩⟩ rfl rfl hl.1 rfl (lv_room (Nat.le_of_ble_eq_true rfl)) dX9_prune_251 ⟨Nat.le_of_ble_eq_true rfl, Nat.le_of_ble_eq_true rfl⟩)) (fun r_100 er_100 => ?_)
                            have k_101 := er_100
                            refine lv_istore (lv' := [(8, .int r_100), (7, .int l7_230), (6, .int l6_230), (5, .int v_35), (4, .int r_29), (2, .long r_25), (0, .ref o), (1, .int p0)]) hx hb dX9_prune_254 hl (by decide) rfl (fun ls hl => ?_)
                            refine lv_iconst (v := 0) hx hb dX9_prune_256 (by decide) ?_
                            refine lv_istore (lv' := [(9, .int (0 : Int32)), (8, .int r_100), (7, .int l7_230), (6, .int l6_230), (5, .int v_35), (4, .int r_29), (2, .long r_25), (0, .ref o), (1, .int p0)]) hx hb dX9_prune_257 hl (by decide) rfl (fun ls hl => ?_)
                            have loop259 : ∀ (n : Nat) (l9_259 : Int32) (a14_259 : Nat → Int32) (H : Heap) (locs : List Loc) (ls : Array Slot), (0 ≤ l9_259.toInt) → (l9_259.toInt ≤ 31) → (31 - l9_259.toInt : Int).toNat < n → va_P (dC, dI) vwCl (rw_W o c kc (rU (rU (rU (rU (rU (rU (rU (rU (rU (rU (rU (rU (rU st 3 s3_230) 4 s4_230) 5 s5_230) 6 s6_230) 12 s12_230) 13 jt_40) 16 x16_4) 17 x17_4) 21 x21_4) 22 x22_4) 24 x24_4) 26 x26_4) 32 x32_26) (rU (rU lg 23 y23_4) 27 y27_4) (rU (rU (rU (rU (rU (rU ai 0 a0_230) 14 a14_259) 19 f19_4) 20 f20_4) 25 f25_4) 31 f31_26) (rU (rU al 18 g18_4) 28 g28_24)) H → va_S A s.heap H locs → lv_has ls 10 [(9, .int l9_259), (8, .int r_100), (7, .int l7_230), (6, .int l6_230), (5, .int v_35), (4, .int r_29), (2, .long r_25), (0, .ref o), (1, .int p0)] → W p l e (headSpec wsX9_prune ({ frames := 8, cells := 0, slots := 0, locals := 181 })).room s m ([.ref o, .int p0] : List Value).toArray below meth cM H locs 0 0 (MQ below (va_Qi (fun r (u : Int32) => r = u) (fun u t => ∃ (x3 : Int32) (x4 : Int32) (x5 : Int32) (x6 : Int32) (x7 : Int32) (x12 : Int32) (x13 : Int32) (x15 : Int32) (x16 : Int32) (x17 : Int32) (x21 : Int32) (x22 : Int32) (x24 : Int32) (x26 : Int32) (x30 : Int32) (x32 : Int32) (y23 : Int64) (y27 : Int64) (f0 : Nat → Int32) (f14 : Nat → Int32) (f19 : Nat → Int32) (f20 : Nat → Int32) (f25 : Nat → Int32) (f31 : Nat → Int32) (g18 : Nat → Int64) (g28 : Nat → Int64) (g29 : Nat → Int64), (0 ≤ x3.toInt) ∧ (x3.toInt ≤ 1) ∧ (0 ≤ x6.toInt) ∧ (x6.toInt ≤ 1) ∧ (0 ≤ x7.toInt) ∧ (x7.toInt ≤ 1) ∧ (0 ≤ x12.toInt) ∧ (x12.toInt ≤ 8) ∧ (0 ≤ x15.toInt) ∧ (x15.toInt ≤ 128) ∧ (0 ≤ x16.toInt) ∧ (x16.toInt ≤ 128) ∧ (0 ≤ x17.toInt) ∧ (x17.toInt ≤ 1) ∧ (-1 ≤ x21.toInt) ∧ (x21.toInt ≤ 127) ∧ (0 ≤ x22.toInt) ∧ (x22.toInt ≤ 1000000) ∧ (0 ≤ x24.toInt) ∧ (x24.toInt ≤ 1) ∧ (0 ≤ x26.toInt) ∧ (x26.toInt ≤ 2000000) ∧ (0 ≤ x30.toInt) ∧ (x30.toInt ≤ 128) ∧ (0 ≤ x32.toInt) ∧ (x32.toInt ≤ 128) ∧ (aR f25 130 (0) 127) ∧ (aR f31 128 (0) 127) ∧ va_P (dC, dI) vwCl (rw_W o c kc (rU (rU (rU (rU (rU (rU (rU (rU (rU (rU (rU (rU (rU (rU (rU (rU st 3 x3) 4 x4) 5 x5) 6 x6) 7 x7) 12 x12) 13 x13) 15 x15) 16 x16) 17 x17) 21 x21) 22 x22) 24 x24) 26 x26) 30 x30) 32 x32) (rU (rU lg 23 y23) 27 y27) (rU (rU (rU (rU (rU (rU ai 0 f0) 14 f14) 19 f19) 20 f20) 25 f25) 31 f31) (rU (rU (rU al 18 g18) 28 g28) 29 g29)) t.heap) A) ([.ref o, .int p0] : List Value).toArray s 0 0 A) (F0 m 259 ls []) := by
                              intro n
                              induction n with
                              | zero => intro l9_259 a14_259 H locs ls if0_259 if1_259 hm; exact absurd hm (Nat.not_lt_zero _)
                              | succ n ih259 =>
                                intro l9_259 a14_259 H locs ls if0_259 if1_259 hm259 hP hS hl
                                refine lv_iload hx hb dX9_prune_259 (lv_at hl 0 rfl) ?_
                                refine lv_bipush (v := 31) hx hb dX9_prune_261 (by decide) ?_
                                refine lv_icmp_ge (tgt := 288) hx hb dX9_prune_263 (by decide) (fun c_102 => ?_) (fun c_102 => ?_)
                                · skip
                                  have ic_102 := iv_le c_102
                                  refine lv_aload_n hx hb dX9_prune_288 rfl (lv_at hl 7 rfl) ?_
                                  refine va_get (D := (dC, dI)) (ci := 11) (v := .ref (c 14)) (C := RX9) (T := TX9) (N := 38) hx hb hts hin9 hown hK hP 0 rfl rfl 14 (by decide) (hts (.fieldLink RX9 24 "BlockLogModel" "fresh" "[I") (by decide +kernel)) (fun _ h9 => h9) rfl dX9_prune_289 ?_
                                  refine lv_bipush (v := 31) hx hb dX9_prune_292 (by decide) ?_
                                  refine lv_sipush (v := 165) hx hb dX9_prune_294 (by decide) ?_
                                  refine va_iast (f := a14_259) hx hb hK hP (rw_D hD) hS 5 4 rfl rfl (iv_in (i := (31 : Int32)) (by omega) (by omega)) dX9_prune_297 (fun H locs hP _ hS => ?_)
                                  have hP : va_P (dC, dI) vwCl (rw_W o c kc (rU (rU (rU (rU (rU (rU (rU (rU (rU (rU (rU (rU (rU st 3 s3_230) 4 s4_230) 5 s5_230) 6 s6_230) 12 s12_230) 13 jt_40) 16 x16_4) 17 x17_4) 21 x21_4) 22 x22_4) 24 x24_4) 26 x26_4) 32 x32_26) (rU (rU lg 23 y23_4) 27 y27_4) (rU (rU (rU (rU (rU (rU ai 0 a0_230) 14 (upd a14_259 (31 : Int32).toNatClampNeg (165 : Int32))) 19 f19_4) 20 f20_4) 25 f25_4) 31 f31_26) (rU (rU al 18 g18_4) 28 g28_24)) H := hP
                                  generalize hU_fresh : upd a14_259 (31 : Int32).toNatClampNeg (165 : Int32) = g_103 at hP
                                  clear hU_fresh
                                  refine lv_aload_n hx hb dX9_prune_298 rfl (lv_at hl 7 rfl) ?_
                                  refine lv_aload_n hx hb dX9_prune_299 rfl (lv_at hl 7 rfl) ?_
                                  refine lv_iload hx hb dX9_prune_300 (lv_at hl 4 rfl) ?_
                                  refine lv_iload hx hb dX9_prune_302 (lv_at hl 3 rfl) ?_
                                  obtain ⟨x_104, ex_104⟩ : ∃ z : Int32, z = l6_230 + (1) := ⟨_, rfl⟩
                                  refine lv_iinc (v := x_104) (lv' := [(6, .int x_104), (9, .int l9_259), (8, .int r_100), (7, .int l7_230), (5, .int v_35), (4, .int r_29), (2, .long r_25), (0, .ref o), (1, .int p0)]) hx hb dX9_prune_304 hl (k := 3) rfl (by rw [ex_104]; rfl) (by decide) rfl (fun ls hl => ?_)
                                  have rg8 := iv_rng l6_230
                                  have hx_104 : x_104.toInt = l6_230.toInt + (1) := by rw [ex_104]; exact (iv_add (by omega) (by omega)).trans (by omega)
                                  clear ex_104
                                  refine vp_callSi (va_Run.run (va_runV (As := [.int v_35, .int l6_230]) (rest := [.ref o]) ⟨hx, hb, hml, hown, hts⟩ (v_X9_rowPlace l dC dI o c kc (rU (rU (rU (rU (rU (rU (rU (rU (rU (rU (rU (rU (rU st 3 s3_230) 4 s4_230) 5 s5_230) 6 s6_230) 12 s12_230) 13 jt_40) 16 x16_4) 17 x17_4) 21 x21_4) 22 x22_4) 24 x24_4) 26 x26_4) 32 x32_26) (rU (rU lg 23 y23_4) 27 y27_4) (rU (rU (rU (rU (rU (rU ai 0 a0_230) 14 g_103) 19 f19_4) 20 f20_4) 25 f25_4) 31 f31_26) (rU (rU al 18 g18_4) 28 g28_24) v_35 l6_230 (by omega) (by omega) (by omega) (by omega)) (cwV 2 hts gX9_prune_X9_rowPlace rfl rfl rfl (by decide +kernel) ⟨Nat.le_of_ble_eq_true rfl, Nat.le_of_ble_eq_true rfl⟩) ⟨fun a U g mk q => by obtain ⟨q0, qP, qK⟩ := q; exact ⟨q0, qP, va_K.moved (u := U) (U := U.calling g mk a) (Vm.Alike.refl U.vm) qK⟩, va_recv hK hP (ci := 11) (q := (RX9, TX9, 38)) rfl (q0 := 0) rfl, fun U hU hW => ⟨rfl, by rw [hU]; exact hP, va_K.moved hW.alike hK⟩⟩ rfl rfl hl.1 rfl (lv_room (Nat.le_of_ble_eq_true rfl)) dX9_prune_307 ⟨Nat.le_of_ble_eq_true rfl, Nat.le_of_ble_eq_true rfl⟩)) (fun r_105 er_105 => ?_)
                                  have k_106 := er_105
                                  refine lv_bipush (v := 32) hx hb dX9_prune_310 (by decide) ?_
                                  have hFc := vfree (rw_D hD : va_D A (rw_W o c kc (rU (rU (rU (rU (rU (rU (rU (rU (rU (rU (rU (rU (rU st 3 s3_230) 4 s4_230) 5 s5_230) 6 s6_230) 12 s12_230) 13 jt_40) 16 x16_4) 17 x17_4) 21 x21_4) 22 x22_4) 24 x24_4) 26 x26_4) 32 x32_26) (rU (rU lg 23 y23_4) 27 y27_4) (rU (rU (rU (rU (rU (rU ai 0 a0_230) 14 g_103) 19 f19_4) 20 f20_4) 25 f25_4) 31 f31_26) (rU (rU al 18 g18_4) 28 g28_24))) hS hA
                                  refine va_callv (va_runV (As := [.int r_105, .int (32 : Int32)]) (rest := []) ⟨hx, hb, hml, hown, hts⟩ (v_X9_writeFresh l dC dI o c kc (rU (rU (rU (rU (rU (rU (rU (rU (rU (rU (rU (rU (rU st 3 s3_230) 4 s4_230) 5 s5_230) 6 s6_230) 12 s12_230) 13 jt_40) 16 x16_4) 17 x17_4) 21 x21_4) 22 x22_4) 24 x24_4) 26 x26_4) 32 x32_26) (rU (rU lg 23 y23_4) 27 y27_4) (rU (rU (rU (rU (rU (rU ai 0 a0_230) 14 g_103) 19 f19_4) 20 f20_4) 25 f25_4) 31 f31_26) (rU (rU al 18 g18_4) 28 g28_24) r_105 (32 : Int32) _ (show 0 ≤ s3_230.toInt by omega) (show s3_230.toInt ≤ 1 by omega) (show 0 ≤ s6_230.toInt by omega) (show s6_230.toInt ≤ 1 by omega) (show 0 ≤ s12_230.toInt by omega) (show s12_230.toInt ≤ 8 by omega) (by omega) (by omega) (by omega) (by omega)) (cwV 2 hts gX9_prune_X9_writeFresh rfl rfl rfl (by decide +kernel) ⟨Nat.le_of_ble_eq_true rfl, Nat.le_of_ble_eq_true rfl⟩) ⟨fun a U g mk q => by obtain ⟨q0, q1, qP, qK, qD⟩ := q; exact ⟨q0, q1, qP, va_K.moved (u := U) (U := U.calling g mk a) (Vm.Alike.refl U.vm) qK, qD⟩, va_recv hK hP (ci := 11) (q := (RX9, TX9, 38)) rfl (q0 := 0) rfl, fun U hU hW => ⟨rfl, by rw [hU], by rw [hU]; exact hP, va_K.moved hW.alike hK, rw_D (hD.weaken (fun _ _ _ _ => trivial))⟩⟩ rfl rfl hl.1 rfl (lv_room (Nat.le_of_ble_eq_true rfl)) dX9_prune_312 ⟨Nat.le_of_ble_eq_true rfl, Nat.le_of_ble_eq_true rfl⟩) hS (fun q _ h => hFc q h) hFc (fun ur_107 t H1 locs ht hvm er_107 hB hz1 hk1 hS => ?_)
                                  obtain ⟨x3_107, x4_107, x5_107, x6_107, x12_107, f0_107, k_108, k_109, k_110, k_111, k_112, k_113, hP1⟩ := hB
                                  rw [ht] at hP1
                                  clear hFc hz1 hk1 hvm hP
                                  subst ht
                                  have hP := hP1
                                  clear hP1
                                  generalize t.heap = H at hP hS ⊢
                                  have hP : va_P (dC, dI) vwCl (rw_W o c kc (rU (rU (rU (rU (rU (rU (rU (rU (rU (rU (rU (rU (rU st 3 x3_107) 4 x4_107) 5 x5_107) 6 x6_107) 12 x12_107) 13 jt_40) 16 x16_4) 17 x17_4) 21 x21_4) 22 x22_4) 24 x24_4) 26 x26_4) 32 x32_26) (rU (rU lg 23 y23_4) 27 y27_4) (rU (rU (rU (rU (rU (rU ai 0 f0_107) 14 g_103) 19 f19_4) 20 f20_4) 25 f25_4) 31 f31_26) (rU (rU al 18 g18_4) 28 g28_24)) H := hP
                                  have k_108 : 0 ≤ x3_107.toInt := k_108
                                  have k_109 : x3_107.toInt ≤ 1 := k_109
                                  have k_110 : 0 ≤ x6_107.toInt := k_110
                                  have k_111 : x6_107.toInt ≤ 1 := k_111
                                  have k_112 : 0 ≤ x12_107.toInt := k_112
                                  have k_113 : x12_107.toInt ≤ 8 := k_113
                                  obtain ⟨x_114, ex_114⟩ : ∃ z : Int32, z = l7_230 + (1) := ⟨_, rfl⟩
                                  refine lv_iinc (v := x_114) (lv' := [(7, .int x_114), (6, .int x_104), (9, .int l9_259), (8, .int r_100), (5, .int v_35), (4, .int r_29), (2, .long r_25), (0, .ref o), (1, .int p0)]) hx hb dX9_prune_315 hl (k := 3) rfl (by rw [ex_114]; rfl) (by decide) rfl (fun ls hl => ?_)
                                  have rg9 := iv_rng l7_230
                                  have hx_114 : x_114.toInt = l7_230.toInt + (1) := by rw [ex_114]; exact (iv_add (by omega) (by omega)).trans (by omega)
                                  clear ex_114
                                  refine lv_goto (tgt := 230) hx hb dX9_prune_318 (by decide) ?_
                                  exact ih230 x_114 x_104 x3_107 x4_107 x5_107 x6_107 x12_107 f0_107 g_103 _ _ _ (by omega) (by omega) (by omega) (by omega) (by omega) (by omega) (by omega) (by omega) (by omega) (by omega) hP hS (lv_sub hl [0, 1, 4, 5, 6, 7, 8] rfl)
                                · skip
                                  have ic_102 := iv_nle c_102
                                  refine lv_aload_n hx hb dX9_prune_266 rfl (lv_at hl 7 rfl) ?_
                                  refine va_get (D := (dC, dI)) (ci := 11) (v := .ref (c 14)) (C := RX9) (T := TX9) (N := 38) hx hb hts hin9 hown hK hP 0 rfl rfl 14 (by decide) (hts (.fieldLink RX9 24 "BlockLogModel" "fresh" "[I") (by decide +kernel)) (fun _ h9 => h9) rfl dX9_prune_267 ?_
                                  refine lv_iload hx hb dX9_prune_270 (lv_at hl 0 rfl) ?_
                                  refine lv_aload_n hx hb dX9_prune_272 rfl (lv_at hl 7 rfl) ?_
                                  refine lv_iload hx hb dX9_prune_273 (lv_at hl 1 rfl) ?_
                                  refine lv_iload hx hb dX9_prune_275 (lv_at hl 0 rfl) ?_
                                  refine lv_iadd hx hb dX9_prune_277 ?_
                                  refine lv_topi (fun v_115 ev_115 => ?_)
                                  have rg10 := iv_rng r_100
                                  have rg11 := iv_rng l9_259
                                  have hv_115 : v_115.toInt = r_100.toInt + l9_259.toInt := by rw [ev_115]; exact (iv_add (by omega) (by omega)).trans (by omega)
                                  refine vp_callSi (va_Run.run (va_runV (As := [.int v_115]) (rest := [.int l9_259, .ref (c 14)]) ⟨hx, hb, hml, hown, hts⟩ (v_X9_byteIn l dC dI o c kc (rU (rU (rU (rU (rU (rU (rU (rU (rU (rU (rU (rU (rU st 3 s3_230) 4 s4_230) 5 s5_230) 6 s6_230) 12 s12_230) 13 jt_40) 16 x16_4) 17 x17_4) 21 x21_4) 22 x22_4) 24 x24_4) 26 x26_4) 32 x32_26) (rU (rU lg 23 y23_4) 27 y27_4) (rU (rU (rU (rU (rU (rU ai 0 a0_230) 14 a14_259) 19 f19_4) 20 f20_4) 25 f25_4) 31 f31_26) (rU (rU al 18 g18_4) 28 g28_24) v_115 (by omega) (by omega)) (cwV 1 hts gX9_prune_X9_byteIn rfl rfl rfl (by decide +kernel) ⟨Nat.le_of_ble_eq_true rfl, Nat.le_of_ble_eq_true rfl⟩) ⟨fun a U g mk q => by obtain ⟨q0, qP, qK⟩ := q; exact ⟨q0, qP, va_K.moved (u := U) (U := U.calling g mk a) (Vm.Alike.refl U.vm) qK⟩, va_recv hK hP (ci := 11) (q := (RX9, TX9, 38)) rfl (q0 := 0) rfl, fun U hU hW => ⟨rfl, by rw [hU]; exact hP, va_K.moved hW.alike hK⟩⟩ rfl rfl hl.1 rfl (lv_room (Nat.le_of_ble_eq_true rfl)) dX9_prune_278 ⟨Nat.le_of_ble_eq_true rfl, Nat.le_of_ble_eq_true rfl⟩)) (fun r_116 er_116 => ?_)
                                  obtain ⟨k_117, k_118, k_119⟩ := er_116
                                  have k_117 : r_116.toInt = (md_get a0_230 v_115).toInt := k_117
                                  refine va_iast (f := a14_259) hx hb hK hP (rw_D hD) hS 5 4 rfl rfl (iv_in (i := l9_259) (by omega) (by omega)) dX9_prune_281 (fun H locs hP _ hS => ?_)
                                  have hP : va_P (dC, dI) vwCl (rw_W o c kc (rU (rU (rU (rU (rU (rU (rU (rU (rU (rU (rU (rU (rU st 3 s3_230) 4 s4_230) 5 s5_230) 6 s6_230) 12 s12_230) 13 jt_40) 16 x16_4) 17 x17_4) 21 x21_4) 22 x22_4) 24 x24_4) 26 x26_4) 32 x32_26) (rU (rU lg 23 y23_4) 27 y27_4) (rU (rU (rU (rU (rU (rU ai 0 a0_230) 14 (upd a14_259 l9_259.toNatClampNeg r_116)) 19 f19_4) 20 f20_4) 25 f25_4) 31 f31_26) (rU (rU al 18 g18_4) 28 g28_24)) H := hP
                                  generalize hU_fresh : upd a14_259 l9_259.toNatClampNeg r_116 = g_120 at hP
                                  clear hU_fresh
                                  obtain ⟨x_121, ex_121⟩ : ∃ z : Int32, z = l9_259 + (1) := ⟨_, rfl⟩
                                  refine lv_iinc (v := x_121) (lv' := [(9, .int x_121), (8, .int r_100), (7, .int l7_230), (6, .int l6_230), (5, .int v_35), (4, .int r_29), (2, .long r_25), (0, .ref o), (1, .int p0)]) hx hb dX9_prune_282 hl (k := 0) rfl (by rw [ex_121]; rfl) (by decide) rfl (fun ls hl => ?_)
                                  have hx_121 : x_121.toInt = l9_259.toInt + (1) := by rw [ex_121]; exact (iv_add (by omega) (by omega)).trans (by omega)
                                  clear ex_121
                                  refine lv_goto (tgt := 259) hx hb dX9_prune_285 (by decide) ?_
                                  exact ih259 x_121 g_120 _ _ _ (by omega) (by omega) (by omega) hP hS (lv_sub hl [0, 1, 2, 3, 4, 5, 6, 7, 8] rfl)
                            exact loop259 ((31 - 0 : Int).toNat + 1) (0 : Int32) a14_230 _ _ _ (by omega) (by omega) (by omega) hP hS (lv_sub hl [0, 1, 2, 3, 4, 5, 6, 7, 8] rfl)
                      exact loop230 ((x32_26.toInt - 0 : Int).toNat + 1) (0 : Int32) l6_170 s3_170 s4_170 s5_170 s6_170 s12_170 a0_170 a14_170 _ _ _ (by omega) (by omega) (by omega) (by omega) (by omega) (by omega) (by omega) (by omega) (by omega) (by omega) hP hS (lv_sub hl [0, 1, 2, 3, 4, 5, 6] rfl)
                    · skip
                      have ic_56 := iv_nle c_56
                      refine lv_aload_n hx hb dX9_prune_177 rfl (lv_at hl 5 rfl) ?_
                      refine va_get (D := (dC, dI)) (ci := 11) (v := .ref (c 28)) (C := RX9) (T := TX9) (N := 38) hx hb hts hin9 hown hK hP 0 rfl rfl 28 (by decide) (hts (.fieldLink RX9 40 "BlockLogModel" "state" "[J") (by decide +kernel)) (fun _ h9 => h9) rfl dX9_prune_178 ?_
                      refine lv_iload hx hb dX9_prune_181 (lv_at hl 0 rfl) ?_
                      refine va_lald (f := g28_24) hx hb hK hP 10 9 rfl rfl (iv_in (i := l7_170) (by omega) (by omega)) dX9_prune_183 ?_
                      refine lv_topl (fun w_122 ew_122 => ?_)
                      have hX_state := ew_122
                      clear ew_122
                      refine lv_lconst (v := 0) hx hb dX9_prune_184 (by decide) ?_
                      refine W.lcmp hx hb dX9_prune_185 ?_
                      refine lv_topi (fun v_123 ev_123 => ?_)
                      refine lv_if_eq (tgt := 221) hx hb dX9_prune_186 (by decide) (fun c_124 => ?_) (fun c_124 => ?_)
                      · skip
                        have ic_124 := iv_eq c_124
                        obtain ⟨x_125, ex_125⟩ : ∃ z : Int32, z = l7_170 + (1) := ⟨_, rfl⟩
                        refine lv_iinc (v := x_125) (lv' := [(7, .int x_125), (6, .int l6_170), (5, .int v_35), (4, .int r_29), (2, .long r_25), (0, .ref o), (1, .int p0)]) hx hb dX9_prune_221 hl (k := 0) rfl (by rw [ex_125]; rfl) (by decide) rfl (fun ls hl => ?_)
                        have rg12 := iv_rng l7_170
                        have hx_125 : x_125.toInt = l7_170.toInt + (1) := by rw [ex_125]; exact (iv_add (by omega) (by omega)).trans (by omega)
                        clear ex_125
                        refine lv_goto (tgt := 170) hx hb dX9_prune_224 (by decide) ?_
                        exact ih170 x_125 l6_170 s3_170 s4_170 s5_170 s6_170 s12_170 a0_170 a14_170 _ _ _ (by omega) (by omega) (by omega) (by omega) (by omega) (by omega) (by omega) (by omega) (by omega) (by omega) (by first | exact cn_1 (d := 1) hcr hX_state (by assumption) (by assumption) (by omega) (by omega) (by omega) | exact cn_z (d := 1) hcr hX_state (by assumption) (by assumption) (by omega) (by omega) (by omega)) (by omega) hP hS (lv_sub hl [0, 1, 2, 3, 4, 5, 6] rfl)
                      · skip
                        have ic_124 := iv_ne c_124
                        have hX1 := hX_state
                        refine lv_aload_n hx hb dX9_prune_189 rfl (lv_at hl 5 rfl) ?_
                        refine lv_iconst (v := 3) hx hb dX9_prune_190 (by decide) ?_
                        refine lv_iload hx hb dX9_prune_191 (lv_at hl 0 rfl) ?_
                        refine lv_iconst (v := 0) hx hb dX9_prune_193 (by decide) ?_
                        refine lv_aload_n hx hb dX9_prune_194 rfl (lv_at hl 5 rfl) ?_
                        refine va_get (D := (dC, dI)) (ci := 11) (v := .ref (c 28)) (C := RX9) (T := TX9) (N := 38) hx hb hts hin9 hown hK hP 0 rfl rfl 28 (by decide) (hts (.fieldLink RX9 40 "BlockLogModel" "state" "[J") (by decide +kernel)) (fun _ h9 => h9) rfl dX9_prune_195 ?_
                        refine lv_iload hx hb dX9_prune_198 (lv_at hl 0 rfl) ?_
                        refine va_lald (f := g28_24) hx hb hK hP 10 9 rfl rfl (iv_in (i := l7_170) (by omega) (by omega)) dX9_prune_200 ?_
                        refine lv_topl (fun w_126 ew_126 => ?_)
                        have hX_state := ew_126
                        clear ew_126
                        have hFc := vfree (rw_D hD : va_D A (rw_W o c kc (rU (rU (rU (rU (rU (rU (rU (rU (rU (rU (rU (rU (rU st 3 s3_170) 4 s4_170) 5 s5_170) 6 s6_170) 12 s12_170) 13 jt_40) 16 x16_4) 17 x17_4) 21 x21_4) 22 x22_4) 24 x24_4) 26 x26_4) 32 x32_26) (rU (rU lg 23 y23_4) 27 y27_4) (rU (rU (rU (rU (rU (rU ai 0 a0_170) 14 a14_170) 19 f19_4) 20 f20_4) 25 f25_4) 31 f31_26) (rU (rU al 18 g18_4) 28 g28_24))) hS hA
                        refine va_callv (va_runV (As := [.int (3 : Int32), .int l7_170, .int (0 : Int32), .long w_126]) (rest := []) ⟨hx, hb, hml, hown, hts⟩ (v_X9_layRow l dC dI o c kc (rU (rU (rU (rU (rU (rU (rU (rU (rU (rU (rU (rU (rU st 3 s3_170) 4 s4_170) 5 s5_170) 6 s6_170) 12 s12_170) 13 jt_40) 16 x16_4) 17 x17_4) 21 x21_4) 22 x22_4) 24 x24_4) 26 x26_4) 32 x32_26) (rU (rU lg 23 y23_4) 27 y27_4) (rU (rU (rU (rU (rU (rU ai 0 a0_170) 14 a14_170) 19 f19_4) 20 f20_4) 25 f25_4) 31 f31_26) (rU (rU al 18 g18_4) 28 g28_24) (3 : Int32) l7_170 (0 : Int32) w_126 _ ) (cwV 4 hts gX9_prune_X9_layRow rfl rfl rfl (by decide +kernel) ⟨Nat.le_of_ble_eq_true rfl, Nat.le_of_ble_eq_true rfl⟩) ⟨fun a U g mk q => by obtain ⟨q0, q1, qP, qK, qD⟩ := q; exact ⟨q0, q1, qP, va_K.moved (u := U) (U := U.calling g mk a) (Vm.Alike.refl U.vm) qK, qD⟩, va_recv hK hP (ci := 11) (q := (RX9, TX9, 38)) rfl (q0 := 0) rfl, fun U hU hW => ⟨rfl, by rw [hU], by rw [hU]; exact hP, va_K.moved hW.alike hK, rw_D (hD.weaken (fun _ _ _ _ => trivial))⟩⟩ rfl rfl hl.1 rfl (lv_room (Nat.le_of_ble_eq_true rfl)) dX9_prune_201 ⟨Nat.le_of_ble_eq_true rfl, Nat.le_of_ble_eq_true rfl⟩) hS (fun q _ h => hFc q h) hFc (fun ur_127 t H1 locs ht hvm er_127 hB hz1 hk1 hS => ?_)
                        obtain ⟨f14_127, hP1⟩ := hB
                        rw [ht] at hP1
                        clear hFc hz1 hk1 hvm hP
                        subst ht
                        have hP := hP1
                        clear hP1
                        generalize t.heap = H at hP hS ⊢
                        have hP : va_P (dC, dI) vwCl (rw_W o c kc (rU (rU (rU (rU (rU (rU (rU (rU (rU (rU (rU (rU (rU st 3 s3_170) 4 s4_170) 5 s5_170) 6 s6_170) 12 s12_170) 13 jt_40) 16 x16_4) 17 x17_4) 21 x21_4) 22 x22_4) 24 x24_4) 26 x26_4) 32 x32_26) (rU (rU lg 23 y23_4) 27 y27_4) (rU (rU (rU (rU (rU (rU ai 0 a0_170) 14 f14_127) 19 f19_4) 20 f20_4) 25 f25_4) 31 f31_26) (rU (rU al 18 g18_4) 28 g28_24)) H := hP
                        refine lv_aload_n hx hb dX9_prune_204 rfl (lv_at hl 5 rfl) ?_
                        refine lv_aload_n hx hb dX9_prune_205 rfl (lv_at hl 5 rfl) ?_
                        refine lv_iload hx hb dX9_prune_206 (lv_at hl 2 rfl) ?_
                        refine lv_iload hx hb dX9_prune_208 (lv_at hl 1 rfl) ?_
                        obtain ⟨x_128, ex_128⟩ : ∃ z : Int32, z = l6_170 + (1) := ⟨_, rfl⟩
                        refine lv_iinc (v := x_128) (lv' := [(6, .int x_128), (7, .int l7_170), (5, .int v_35), (4, .int r_29), (2, .long r_25), (0, .ref o), (1, .int p0)]) hx hb dX9_prune_210 hl (k := 1) rfl (by rw [ex_128]; rfl) (by decide) rfl (fun ls hl => ?_)
                        have rg13 := iv_rng l6_170
                        have hx_128 : x_128.toInt = l6_170.toInt + (1) := by rw [ex_128]; exact (iv_add (by omega) (by omega)).trans (by omega)
                        clear ex_128
                        refine vp_callSi (va_Run.run (va_runV (As := [.int v_35, .int l6_170]) (rest := [.ref o]) ⟨hx, hb, hml, hown, hts⟩ (v_X9_rowPlace l dC dI o c kc (rU (rU (rU (rU (rU (rU (rU (rU (rU (rU (rU (rU (rU st 3 s3_170) 4 s4_170) 5 s5_170) 6 s6_170) 12 s12_170) 13 jt_40) 16 x16_4) 17 x17_4) 21 x21_4) 22 x22_4) 24 x24_4) 26 x26_4) 32 x32_26) (rU (rU lg 23 y23_4) 27 y27_4) (rU (rU (rU (rU (rU (rU ai 0 a0_170) 14 f14_127) 19 f19_4) 20 f20_4) 25 f25_4) 31 f31_26) (rU (rU al 18 g18_4) 28 g28_24) v_35 l6_170 (by omega) (by omega) (by omega) (by omega)) (cwV 2 hts gX9_prune_X9_rowPlace rfl rfl rfl (by decide +kernel) ⟨Nat.le_of_ble_eq_true rfl, Nat.le_of_ble_eq_true rfl⟩) ⟨fun a U g mk q => by obtain ⟨q0, qP, qK⟩ := q; exact ⟨q0, qP, va_K.moved (u := U) (U := U.calling g mk a) (Vm.Alike.refl U.vm) qK⟩, va_recv hK hP (ci := 11) (q := (RX9, TX9, 38)) rfl (q0 := 0) rfl, fun U hU hW => ⟨rfl, by rw [hU]; exact hP, va_K.moved hW.alike hK⟩⟩ rfl rfl hl.1 rfl (lv_room (Nat.le_of_ble_eq_true rfl)) dX9_prune_213 ⟨Nat.le_of_ble_eq_true rfl, Nat.le_of_ble_eq_true rfl⟩)) (fun r_129 er_129 => ?_)
                        have k_130 := er_129
                        refine lv_bipush (v := 32) hx hb dX9_prune_216 (by decide) ?_
                        have hFc := vfree (rw_D hD : va_D A (rw_W o c kc (rU (rU (rU (rU (rU (rU (rU (rU (rU (rU (rU (rU (rU st 3 s3_170) 4 s4_170) 5 s5_170) 6 s6_170) 12 s12_170) 13 jt_40) 16 x16_4) 17 x17_4) 21 x21_4) 22 x22_4) 24 x24_4) 26 x26_4) 32 x32_26) (rU (rU lg 23 y23_4) 27 y27_4) (rU (rU (rU (rU (rU (rU ai 0 a0_170) 14 f14_127) 19 f19_4) 20 f20_4) 25 f25_4) 31 f31_26) (rU (rU al 18 g18_4) 28 g28_24))) hS hA
                        refine va_callv (va_runV (As := [.int r_129, .int (32 : Int32)]) (rest := []) ⟨hx, hb, hml, hown, hts⟩ (v_X9_writeFresh l dC dI o c kc (rU (rU (rU (rU (rU (rU (rU (rU (rU (rU (rU (rU (rU st 3 s3_170) 4 s4_170) 5 s5_170) 6 s6_170) 12 s12_170) 13 jt_40) 16 x16_4) 17 x17_4) 21 x21_4) 22 x22_4) 24 x24_4) 26 x26_4) 32 x32_26) (rU (rU lg 23 y23_4) 27 y27_4) (rU (rU (rU (rU (rU (rU ai 0 a0_170) 14 f14_127) 19 f19_4) 20 f20_4) 25 f25_4) 31 f31_26) (rU (rU al 18 g18_4) 28 g28_24) r_129 (32 : Int32) _ (show 0 ≤ s3_170.toInt by omega) (show s3_170.toInt ≤ 1 by omega) (show 0 ≤ s6_170.toInt by omega) (show s6_170.toInt ≤ 1 by omega) (show 0 ≤ s12_170.toInt by omega) (show s12_170.toInt ≤ 8 by omega) (by omega) (by omega) (by omega) (by omega)) (cwV 2 hts gX9_prune_X9_writeFresh rfl rfl rfl (by decide +kernel) ⟨Nat.le_of_ble_eq_true rfl, Nat.le_of_ble_eq_true rfl⟩) ⟨fun a U g mk q => by obtain ⟨q0, q1, qP, qK, qD⟩ := q; exact ⟨q0, q1, qP, va_K.moved (u := U) (U := U.calling g mk a) (Vm.Alike.refl U.vm) qK, qD⟩, va_recv hK hP (ci := 11) (q := (RX9, TX9, 38)) rfl (q0 := 0) rfl, fun U hU hW => ⟨rfl, by rw [hU], by rw [hU]; exact hP, va_K.moved hW.alike hK, rw_D (hD.weaken (fun _ _ _ _ => trivial))⟩⟩ rfl rfl hl.1 rfl (lv_room (Nat.le_of_ble_eq_true rfl)) dX9_prune_218 ⟨Nat.le_of_ble_eq_true rfl, Nat.le_of_ble_eq_true rfl⟩) hS (fun q _ h => hFc q h) hFc (fun ur_131 t H1 locs ht hvm er_131 hB hz1 hk1 hS => ?_)
                        obtain ⟨x3_131, x4_131, x5_131, x6_131, x12_131, f0_131, k_132, k_133, k_134, k_135, k_136, k_137, hP1⟩ := hB
                        rw [ht] at hP1
                        clear hFc hz1 hk1 hvm hP
                        subst ht
                        have hP := hP1
                        clear hP1
                        generalize t.heap = H at hP hS ⊢
                        have hP : va_P (dC, dI) vwCl (rw_W o c kc (rU (rU (rU (rU (rU (rU (rU (rU (rU (rU (rU (rU (rU st 3 x3_131) 4 x4_131) 5 x5_131) 6 x6_131) 12 x12_131) 13 jt_40) 16 x16_4) 17 x17_4) 21 x21_4) 22 x22_4) 24 x24_4) 26 x26_4) 32 x32_26) (rU (rU lg 23 y23_4) 27 y27_4) (rU (rU (rU (rU (rU (rU ai 0 f0_131) 14 f14_127) 19 f19_4) 20 f20_4) 25 f25_4) 31 f31_26) (rU (rU al 18 g18_4) 28 g28_24)) H := hP
                        have k_132 : 0 ≤ x3_131.toInt := k_132
                        have k_133 : x3_131.toInt ≤ 1 := k_133
                        have k_134 : 0 ≤ x6_131.toInt := k_134
                        have k_135 : x6_131.toInt ≤ 1 := k_135
                        have k_136 : 0 ≤ x12_131.toInt := k_136
                        have k_137 : x12_131.toInt ≤ 8 := k_137
                        have hX_state := hX1
                        obtain ⟨x_138, ex_138⟩ : ∃ z : Int32, z = l7_170 + (1) := ⟨_, rfl⟩
                        refine lv_iinc (v := x_138) (lv' := [(7, .int x_138), (6, .int x_128), (5, .int v_35), (4, .int r_29), (2, .long r_25), (0, .ref o), (1, .int p0)]) hx hb dX9_prune_221 hl (k := 1) rfl (by rw [ex_138]; rfl) (by decide) rfl (fun ls hl => ?_)
                        have rg14 := iv_rng l7_170
                        have hx_138 : x_138.toInt = l7_170.toInt + (1) := by rw [ex_138]; exact (iv_add (by omega) (by omega)).trans (by omega)
                        clear ex_138
                        refine lv_goto (tgt := 170) hx hb dX9_prune_224 (by decide) ?_
                        exact ih170 x_138 x_128 x3_131 x4_131 x5_131 x6_131 x12_131 f0_131 f14_127 _ _ _ (by omega) (by omega) (by omega) (by omega) (by omega) (by omega) (by omega) (by omega) (by omega) (by omega) (by first | exact cn_1 (d := 1) hcr hX_state (by assumption) (by assumption) (by omega) (by omega) (by omega) | exact cn_z (d := 1) hcr hX_state (by assumption) (by assumption) (by omega) (by omega) (by omega)) (by omega) hP hS (lv_sub hl [0, 1, 2, 3, 4, 5, 6] rfl)
                exact loop170 ((16 - 0 : Int).toNat + 1) (0 : Int32) x_46 x3_49 x4_49 x5_49 x6_49 x12_49 f0_49 f14_45 _ _ _ (by omega) (by omega) (by omega) (by omega) (by omega) (by omega) (by omega) (by omega) (by omega) (by omega) (cn_0 (by omega) (by omega)) (by omega) hP hS (lv_sub hl [0, 1, 2, 3, 4, 5, 6] rfl)
              · skip
                have ic_34 := iv_nle c_34
                refine lv_bipush (v := (-2)) hx hb dX9_prune_111 (by decide) ?_
                exact W.iret hx hb hr (fun t ht hW => ⟨⟨_, _, rfl, rfl, st 3, st 4, st 5, st 6, st 7, st 12, jt_40, st 15, x16_4, x17_4, x21_4, x22_4, x24_4, x26_4, st 30, x32_26, y23_4, y27_4, ai 0, ai 14, f19_4, f20_4, f25_4, f31_26, g18_4, g28_24, al 29, (by omega), (by omega), (by omega), (by omega), (by omega), (by omega), (by omega), (by omega), (by omega), (by omega), (by omega), (by omega), (by omega), (by omega), (by omega), (by omega), (by omega), (by omega), (by omega), (by omega), (by omega), (by omega), (by omega), (by omega), (by omega), (by omega), hR25, hR31, by rw [ht]; exact hP⟩, hS.F ht⟩) hS.2.2 dX9_prune_113
            · skip
              have ic_23 := iv_nle c_23
              refine lv_iconst (v := 0) hx hb dX9_prune_71 (by decide) ?_
              exact W.iret hx hb hr (fun t ht hW => ⟨⟨_, _, rfl, rfl, st 3, st 4, st 5, st 6, st 7, st 12, jt_40, st 15, x16_4, x17_4, x21_4, x22_4, x24_4, x26_4, st 30, st 32, y23_4, y27_4, ai 0, ai 14, f19_4, f20_4, f25_4, ai 31, g18_4, al 28, al 29, (by omega), (by omega), (by omega), (by omega), (by omega), (by omega), (by omega), (by omega), (by omega), (by omega), (by omega), (by omega), (by omega), (by omega), (by omega), (by omega), (by omega), (by omega), (by omega), (by omega), (by omega), (by omega), (by omega), (by omega), (by omega), (by omega), hR25, hR31, by rw [ht]; exact hP⟩, hS.F ht⟩) hS.2.2 dX9_prune_72
          refine lv_iload_n hx hb dX9_prune_40 rfl (lv_at hl 1 rfl) ?_
          refine lv_aload_n hx hb dX9_prune_41 rfl (lv_at hl 0 rfl) ?_
          refine va_get (D := (dC, dI)) (ci := 11) (v := .int x22_4) (C := RX9) (T := TX9) (N := 38) hx hb hts hin9 hown hK hP 0 rfl rfl 22 (by decide) (hts (.fieldLink RX9 182 "BlockLogModel" "baseHeight" "I") (by decide +kernel)) (fun _ h9 => h9) rfl dX9_prune_42 ?_
          refine lv_icmp_le (tgt := 56) hx hb dX9_prune_45 (by decide) (fun c_139 => ?_) (fun c_139 => ?_)
          · skip
            have ic_139 := iv_le c_139
            refine lv_iconst (v := 2) hx hb dX9_prune_56 (by decide) ?_
            refine lv_goto (tgt := 61) hx hb dX9_prune_57 (by decide) ?_
            exact join40 (2 : Int32) _ _ _ (by omega) (by omega) (by omega) hP hS (lv_sub hl [0, 1] rfl)
          · skip
            have ic_139 := iv_nle c_139
            refine lv_iload_n hx hb dX9_prune_48 rfl (lv_at hl 1 rfl) ?_
            refine lv_aload_n hx hb dX9_prune_49 rfl (lv_at hl 0 rfl) ?_
            refine va_get (D := (dC, dI)) (ci := 11) (v := .int x26_4) (C := RX9) (T := TX9) (N := 38) hx hb hts hin9 hown hK hP 0 rfl rfl 26 (by decide) (hts (.fieldLink RX9 192 "BlockLogModel" "lastVersion" "I") (by decide +kernel)) (fun _ h9 => h9) rfl dX9_prune_50 ?_
            refine lv_icmp_le (tgt := 60) hx hb dX9_prune_53 (by decide) (fun c_140 => ?_) (fun c_140 => ?_)
            · skip
              have ic_140 := iv_le c_140
              refine lv_iconst (v := 0) hx hb dX9_prune_60 (by decide) ?_
              exact join40 (0 : Int32) _ _ _ (by omega) (by omega) (by omega) hP hS (lv_sub hl [0, 1] rfl)
            · skip
              have ic_140 := iv_nle c_140
              refine lv_iconst (v := 2) hx hb dX9_prune_56 (by decide) ?_
              refine lv_goto (tgt := 61) hx hb dX9_prune_57 (by decide) ?_
              exact join40 (2 : Int32) _ _ _ (by omega) (by omega) (by omega) hP hS (lv_sub hl [0, 1] rfl)
        · skip
          have ic_22 := iv_ne c_22
          refine lv_bipush (v := (-3)) hx hb dX9_prune_36 (by decide) ?_
          exact W.iret hx hb hr (fun t ht hW => ⟨⟨_, _, rfl, rfl, st 3, st 4, st 5, st 6, st 7, st 12, (0 : Int32), st 15, x16_4, x17_4, x21_4, x22_4, x24_4, x26_4, st 30, st 32, y23_4, y27_4, ai 0, ai 14, f19_4, f20_4, f25_4, ai 31, g18_4, al 28, al 29, (by omega), (by omega), (by omega), (by omega), (by omega), (by omega), (by omega), (by omega), (by omega), (by omega), (by omega), (by omega), (by omega), (by omega), (by omega), (by omega), (by omega), (by omega), (by omega), (by omega), (by omega), (by omega), (by omega), (by omega), (by omega), (by omega), hR25, hR31, by rw [ht]; exact hP⟩, hS.F ht⟩) hS.2.2 dX9_prune_38
      · skip
        have ic_3 := iv_nle c_3
        exfalso
        omega
  exact main s.heap [] hP hS
