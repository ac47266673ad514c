set_option maxHeartbeats 4000000 in
set_option maxRecDepth 100000 in
theorem v_X9_out (l : Launch) (dC : Nat → ClassId) (dI : Nat → Nat → Nat) (o : Nat) (c : Nat → Nat) (kc : Nat → ClassId) (st : Nat → Int32) (lg : Nat → Int64) (ai : Nat → Nat → Int32) (al : Nat → Nat → Int64) (p0 : Int32) (sz : Nat) (hf1a : 1 ≤ (st 1).toInt) (hf1b : (st 1).toInt ≤ 65536) (hf3a : 0 ≤ (st 3).toInt) (hf3b : (st 3).toInt ≤ 1) (hf7a : 0 ≤ (st 7).toInt) (hf7b : (st 7).toInt ≤ 1) (hf9a : 0 ≤ (st 9).toInt) (hf9b : (st 9).toInt ≤ 400) (hf15a : 0 ≤ (st 15).toInt) (hf15b : (st 15).toInt ≤ 128) (hf16a : 0 ≤ (st 16).toInt) (hf16b : (st 16).toInt ≤ 128) (hf17a : 0 ≤ (st 17).toInt) (hf17b : (st 17).toInt ≤ 1) (hf21a : -1 ≤ (st 21).toInt) (hf21b : (st 21).toInt ≤ 127) (hf22a : 0 ≤ (st 22).toInt) (hf22b : (st 22).toInt ≤ 1000000) (hf24a : 0 ≤ (st 24).toInt) (hf24b : (st 24).toInt ≤ 1) (hf26a : 0 ≤ (st 26).toInt) (hf26b : (st 26).toInt ≤ 2000000) (hR8 : aR (ai 8) 400 (0) 255) (hR25 : aR (ai 25) 130 (0) 127) : Met l yX9_out wsX9_out ({ frames := 7, cells := 0, slots := 0, locals := 159 }) (va_Pc [.ref o, .int p0] (fun U => U.heap.size = sz ∧ va_P (dC, dI) vwCl (rw_W o c kc st lg ai al) U.heap ∧ va_K (dC, dI) vwCl (rw_T kc) U ∧ va_D (fun _ => True) (rw_W o c kc st lg ai al))) (va_Qi (fun r (u : Int32) => r = u) (fun u t => ∃ (x9 : Int32) (x13 : Int32) (x16 : Int32) (x17 : Int32) (x21 : Int32) (x22 : Int32) (x24 : Int32) (x26 : Int32) (y23 : Int64) (y27 : Int64) (f8 : Nat → Int32) (f19 : Nat → Int32) (f20 : Nat → Int32) (f25 : Nat → Int32) (g18 : Nat → Int64) (g28 : Nat → Int64), (0 ≤ x9.toInt) ∧ (x9.toInt ≤ 400) ∧ (0 ≤ x16.toInt) ∧ (x16.toInt ≤ 128) ∧ (0 ≤ x17.toInt) ∧ (x17.toInt ≤ 1) ∧ (-1 ≤ x21.toInt) ∧ (x21.toInt ≤ 127) ∧ (0 ≤ x22.toInt) ∧ (x22.toInt ≤ 1000000) ∧ (0 ≤ x24.toInt) ∧ (x24.toInt ≤ 1) ∧ (0 ≤ x26.toInt) ∧ (x26.toInt ≤ 2000000) ∧ (aR f8 400 (0) 255) ∧ (aR f25 130 (0) 127) ∧ va_P (dC, dI) vwCl (rw_W o c kc (rU (rU (rU (rU (rU (rU (rU (rU st 9 x9) 13 x13) 16 x16) 17 x17) 21 x21) 22 x22) 24 x24) 26 x26) (rU (rU lg 23 y23) 27 y27) (rU (rU (rU (rU ai 8 f8) 19 f19) 20 f20) 25 f25) (rU (rU al 18 g18) 28 g28)) t.heap) (va_A (rw_W o c kc st lg ai al) sz)) 0 0 (va_A (rw_W o c kc st lg ai al) sz) := by
  refine Met.ofW (cc := cX9_out) (maxL := 6) (ret := (some .int)) (by decide) rfl ?_
  intro p e s m args below meth cM s₁ B hml hv
  obtain ⟨rfl, hsz, hP, hK, hD0⟩ := hv
  have hx := B.exec
  have hb := B.bytes
  have hr := B.returns
  have hts := atoms_spec (ws := wsX9_out) B.pre
  have hown : s.vm.findClass RX9 = some m.cls := findClass_of_methodNamed B.named
  subst hsz
  have hD := hD0.self (sz := s.heap.size)
  generalize hAe : va_A (rw_W o c kc st lg ai al) s.heap.size = A at hD ⊢
  have hA : ∀ q : Nat, s.heap.size ≤ q → A q := fun q h => by rw [← hAe]; exact Or.inr h
  have hS : va_S A s.heap s.heap [] := va_S.rf
  clear hAe hD0
  have hl := lv_entry ([.ref o, .int p0]) (n := 6) (Nat.le_of_ble_eq_true rfl)
  rw [lg_entry_eq]
  generalize (lg_sl ([.ref o, .int p0]) ++ List.replicate (6 - (lg_sl ([.ref o, .int p0])).length) Slot.unset).toArray = ls at hl ⊢
  have hl : lv_has ls 6 [(0, .ref o), (1, .int p0)] := hl
  have z_m6 : (-6 : Int32).toInt = -6 := by decide
  have z_m1 : (-1 : Int32).toInt = -1 := by decide
  have z_0 : (0 : Int32).toInt = 0 := by decide
  have z_1 : (1 : Int32).toInt = 1 := by decide
  have z_2 : (2 : Int32).toInt = 2 := by decide
  have z_4 : (4 : Int32).toInt = 4 := by decide
  have z_8 : (8 : Int32).toInt = 8 := by decide
  have z_16 : (16 : Int32).toInt = 16 := by decide
  have hin9 : ∀ w ∈ u_ws RX9 TX9 38, w ∈ wsX9_out := by decide +kernel
  have main : ∀ (H : Heap) (locs : List Loc), va_P (dC, dI) vwCl (rw_W o c kc st lg ai al) H → va_S A s.heap H locs → W p l e (headSpec wsX9_out ({ frames := 7, cells := 0, slots := 0, locals := 159 })).room s m ([.ref o, .int p0] : List Value).toArray below meth cM H locs 0 0 (MQ below (va_Qi (fun r (u : Int32) => r = u) (fun u t => ∃ (x9 : Int32) (x13 : Int32) (x16 : Int32) (x17 : Int32) (x21 : Int32) (x22 : Int32) (x24 : Int32) (x26 : Int32) (y23 : Int64) (y27 : Int64) (f8 : Nat → Int32) (f19 : Nat → Int32) (f20 : Nat → Int32) (f25 : Nat → Int32) (g18 : Nat → Int64) (g28 : Nat → Int64), (0 ≤ x9.toInt) ∧ (x9.toInt ≤ 400) ∧ (0 ≤ x16.toInt) ∧ (x16.toInt ≤ 128) ∧ (0 ≤ x17.toInt) ∧ (x17.toInt ≤ 1) ∧ (-1 ≤ x21.toInt) ∧ (x21.toInt ≤ 127) ∧ (0 ≤ x22.toInt) ∧ (x22.toInt ≤ 1000000) ∧ (0 ≤ x24.toInt) ∧ (x24.toInt ≤ 1) ∧ (0 ≤ x26.toInt) ∧ (x26.toInt ≤ 2000000) ∧ (aR f8 400 (0) 255) ∧ (aR f25 130 (0) 127) ∧ va_P (dC, dI) vwCl (rw_W o c kc (rU (rU (rU (rU (rU (rU (rU (rU st 9 x9) 13 x13) 16 x16) 17 x17) 21 x21) 22 x22) 24 x24) 26 x26) (rU (rU lg 23 y23) 27 y27) (rU (rU (rU (rU ai 8 f8) 19 f19) 20 f20) 25 f25) (rU (rU al 18 g18) 28 g28)) t.heap) A) ([.ref o, .int p0] : List Value).toArray s 0 0 A) (F0 m 0 ls []) := by
    intro H locs hP hS
    refine lv_aload_n hx hb dX9_out_0 rfl (lv_at hl 0 rfl) ?_
    refine lv_aload_n hx hb dX9_out_1 rfl (lv_at hl 0 rfl) ?_
    refine va_get (D := (dC, dI)) (ci := 11) (v := .int (st 3)) (C := RX9) (T := TX9) (N := 38) hx hb hts hin9 hown hK hP 0 rfl rfl 3 (by decide) (hts (.fieldLink RX9 72 "BlockLogModel" "on" "Z") (by decide +kernel)) (fun _ h9 => h9) rfl dX9_out_2 ?_
    refine lv_if_eq (tgt := 12) hx hb dX9_out_5 (by decide) (fun c_1 => ?_) (fun c_1 => ?_)
    · skip
      have ic_1 := iv_eq c_1
      refine lv_iconst (v := 1) hx hb dX9_out_12 (by decide) ?_
      refine va_put (D := (dC, dI)) (ci := 11) (v := .int (1 : Int32)) (ty := .int) (C := RX9) (T := TX9) (N := 38) hx hb hts hin9 tyX9 tyX9_ok nmX9 hown hK hP (rw_D hD) hS 0 rfl rfl 13 (by decide) (hts (.fieldLink RX9 91 "BlockLogModel" "thrown" "I") (by decide +kernel)) (fun _ h9 => h9) rfl (by decide +kernel) rfl rfl (Nat.le_of_ble_eq_true rfl) dX9_out_13 (fun H locs hP _ hS => ?_)
      have hP : va_P (dC, dI) vwCl (rw_W o c kc (rU st 13 (1 : Int32)) lg ai al) H := hP
      refine lv_aload_n hx hb dX9_out_16 rfl (lv_at hl 0 rfl) ?_
      refine va_get (D := (dC, dI)) (ci := 11) (v := .int (1 : Int32)) (C := RX9) (T := TX9) (N := 38) hx hb hts hin9 hown hK hP 0 rfl rfl 13 (by decide) (hts (.fieldLink RX9 91 "BlockLogModel" "thrown" "I") (by decide +kernel)) (fun _ h9 => h9) rfl dX9_out_17 ?_
      refine lv_if_le (tgt := 25) hx hb dX9_out_20 (by decide) (fun c_2 => ?_) (fun c_2 => ?_)
      · skip
        have ic_2 := iv_le c_2
        exfalso
        omega
      · skip
        have ic_2 := iv_nle c_2
        refine lv_iconst (v := 0) hx hb dX9_out_23 (by decide) ?_
        exact W.iret hx hb hr (fun t ht hW => ⟨⟨_, _, rfl, rfl, st 9, (1 : Int32), st 16, st 17, st 21, st 22, st 24, st 26, lg 23, lg 27, ai 8, ai 19, ai 20, ai 25, al 18, al 28, (by omega), (by omega), (by omega), (by omega), (by omega), (by omega), (by omega), (by omega), (by omega), (by omega), (by omega), (by omega), (by omega), (by omega), hR8, hR25, by rw [ht]; exact hP⟩, hS.F ht⟩) hS.2.2 dX9_out_24
    · skip
      have ic_1 := iv_ne c_1
      refine lv_iconst (v := 0) hx hb dX9_out_8 (by decide) ?_
      refine lv_goto (tgt := 13) hx hb dX9_out_9 (by decide) ?_
      refine va_put (D := (dC, dI)) (ci := 11) (v := .int (0 : Int32)) (ty := .int) (C := RX9) (T := TX9) (N := 38) hx hb hts hin9 tyX9 tyX9_ok nmX9 hown hK hP (rw_D hD) hS 0 rfl rfl 13 (by decide) (hts (.fieldLink RX9 91 "BlockLogModel" "thrown" "I") (by decide +kernel)) (fun _ h9 => h9) rfl (by decide +kernel) rfl rfl (Nat.le_of_ble_eq_true rfl) dX9_out_13 (fun H locs hP _ hS => ?_)
      have hP : va_P (dC, dI) vwCl (rw_W o c kc (rU st 13 (0 : Int32)) lg ai al) H := hP
      refine lv_aload_n hx hb dX9_out_16 rfl (lv_at hl 0 rfl) ?_
      refine va_get (D := (dC, dI)) (ci := 11) (v := .int (0 : Int32)) (C := RX9) (T := TX9) (N := 38) hx hb hts hin9 hown hK hP 0 rfl rfl 13 (by decide) (hts (.fieldLink RX9 91 "BlockLogModel" "thrown" "I") (by decide +kernel)) (fun _ h9 => h9) rfl dX9_out_17 ?_
      refine lv_if_le (tgt := 25) hx hb dX9_out_20 (by decide) (fun c_3 => ?_) (fun c_3 => ?_)
      · skip
        have ic_3 := iv_le c_3
        refine lv_aload_n hx hb dX9_out_25 rfl (lv_at hl 0 rfl) ?_
        have hFc := vfree (rw_D hD : va_D A (rw_W o c kc (rU st 13 (0 : Int32)) lg ai al)) hS hA
        refine va_callv (va_runV (As := []) (rest := []) ⟨hx, hb, hml, hown, hts⟩ (v_X9_read l dC dI o c kc (rU st 13 (0 : Int32)) lg ai al  _ (show 0 ≤ (st 7).toInt by omega) (show (st 7).toInt ≤ 1 by omega) (show 0 ≤ (st 15).toInt by omega) (show (st 15).toInt ≤ 128 by omega) (show 0 ≤ (st 16).toInt by omega) (show (st 16).toInt ≤ 128 by omega) (show 0 ≤ (st 17).toInt by omega) (show (st 17).toInt ≤ 1 by omega) (show -1 ≤ (st 21).toInt by omega) (show (st 21).toInt ≤ 127 by omega) (show 0 ≤ (st 22).toInt by omega) (show (st 22).toInt ≤ 1000000 by omega) (show 0 ≤ (st 24).toInt by omega) (show (st 24).toInt ≤ 1 by omega) (show 0 ≤ (st 26).toInt by omega) (show (st 26).toInt ≤ 2000000 by omega) (show aR (ai 25) 130 (0) 127 from hR25)) (cwV 0 hts gX9_out_X9_read rfl rfl rfl (by decide +kernel) ⟨Nat.le_of_ble_eq_true rfl, Nat.le_of_ble_eq_true rfl⟩) ⟨fun a U g mk q => by obtain ⟨q0, q1, qP, qK, qD⟩ := q; exact ⟨q0, q1, qP, va_K.moved (u := U) (U := U.calling g mk a) (Vm.Alike.refl U.vm) qK, qD⟩, va_recv hK hP (ci := 11) (q := (RX9, TX9, 38)) rfl (q0 := 0) rfl, fun U hU hW => ⟨rfl, by rw [hU], by rw [hU]; exact hP, va_K.moved hW.alike hK, rw_D (hD.weaken (fun _ _ _ _ => trivial))⟩⟩ rfl rfl hl.1 rfl (lv_room (Nat.le_of_ble_eq_true rfl)) dX9_out_26 ⟨Nat.le_of_ble_eq_true rfl, Nat.le_of_ble_eq_true rfl⟩) hS (fun q _ h => hFc q h) hFc (fun ur_4 t H1 locs ht hvm er_4 hB hz1 hk1 hS => ?_)
        obtain ⟨x16_4, x17_4, x21_4, x22_4, x24_4, x26_4, y23_4, y27_4, f19_4, f20_4, f25_4, g18_4, k_5, k_6, k_7, k_8, k_9, k_10, k_11, k_12, k_13, k_14, k_15, k_16, k_17, k_18, k_19, k_20, k_21, hR25, hG, hC, hV, hBs, hP1⟩ := hB
        rw [ht] at hP1
        clear hFc hz1 hk1 hvm hP
        subst ht
        have hP := hP1
        clear hP1
        generalize t.heap = H at hP hS ⊢
        have hP : va_P (dC, dI) vwCl (rw_W o c kc (rU (rU (rU (rU (rU (rU (rU st 13 (0 : Int32)) 16 x16_4) 17 x17_4) 21 x21_4) 22 x22_4) 24 x24_4) 26 x26_4) (rU (rU lg 23 y23_4) 27 y27_4) (rU (rU (rU ai 19 f19_4) 20 f20_4) 25 f25_4) (rU al 18 g18_4)) H := hP
        have k_5 : x16_4.toInt = (st 15).toInt := k_5
        have k_6 : 0 ≤ x26_4.toInt - x22_4.toInt := k_6
        have k_7 : x26_4.toInt - x22_4.toInt ≤ 128 := k_7
        have k_8 : (x21_4.toInt = -1 ∨ (rK (ai 0) (st 7) x21_4).toInt = 1) := k_8
        have k_9 : x21_4.toInt < x16_4.toInt := k_9
        have k_10 : 0 ≤ x16_4.toInt := k_10
        have k_11 : x16_4.toInt ≤ 128 := k_11
        have k_12 : 0 ≤ x17_4.toInt := k_12
        have k_13 : x17_4.toInt ≤ 1 := k_13
        have k_14 : -1 ≤ x21_4.toInt := k_14
        have k_15 : x21_4.toInt ≤ 127 := k_15
        have k_16 : 0 ≤ x22_4.toInt := k_16
        have k_17 : x22_4.toInt ≤ 1000000 := k_17
        have k_18 : 0 ≤ x24_4.toInt := k_18
        have k_19 : x24_4.toInt ≤ 1 := k_19
        have k_20 : 0 ≤ x26_4.toInt := k_20
        have k_21 : x26_4.toInt ≤ 2000000 := k_21
        have hR25 : aR f25_4 130 (0) 127 := hR25
        have hG : gOK (ai 0) (st 7) x16_4 f19_4 := hG
        have hC : cOK (ai 0) (st 7) x16_4 f20_4 := hC
        have hV : vOK (ai 0) (st 7) x16_4 f25_4 (x26_4.toInt - x22_4.toInt) := hV
        have hBs : bOK (ai 0) (st 7) x16_4 x24_4 := hBs
        refine lv_aload_n hx hb dX9_out_29 rfl (lv_at hl 0 rfl) ?_
        have join30 : ∀ (jt_30 : Int32) (H : Heap) (locs : List Loc) (ls : Array Slot), (0 ≤ jt_30.toInt) → (jt_30.toInt ≤ 2) → (jt_30.toInt = 0 → (x22_4.toInt ≤ p0.toInt ∧ p0.toInt ≤ x26_4.toInt)) → va_P (dC, dI) vwCl (rw_W o c kc (rU (rU (rU (rU (rU (rU (rU st 13 (0 : Int32)) 16 x16_4) 17 x17_4) 21 x21_4) 22 x22_4) 24 x24_4) 26 x26_4) (rU (rU lg 23 y23_4) 27 y27_4) (rU (rU (rU ai 19 f19_4) 20 f20_4) 25 f25_4) (rU al 18 g18_4)) H → va_S A s.heap H locs → lv_has ls 6 [(0, .ref o), (1, .int p0)] → W p l e (headSpec wsX9_out ({ frames := 7, cells := 0, slots := 0, locals := 159 })).room s m ([.ref o, .int p0] : List Value).toArray below meth cM H locs 0 0 (MQ below (va_Qi (fun r (u : Int32) => r = u) (fun u t => ∃ (x9 : Int32) (x13 : Int32) (x16 : Int32) (x17 : Int32) (x21 : Int32) (x22 : Int32) (x24 : Int32) (x26 : Int32) (y23 : Int64) (y27 : Int64) (f8 : Nat → Int32) (f19 : Nat → Int32) (f20 : Nat → Int32) (f25 : Nat → Int32) (g18 : Nat → Int64) (g28 : Nat → Int64), (0 ≤ x9.toInt) ∧ (x9.toInt ≤ 400) ∧ (0 ≤ x16.toInt) ∧ (x16.toInt ≤ 128) ∧ (0 ≤ x17.toInt) ∧ (x17.toInt ≤ 1) ∧ (-1 ≤ x21.toInt) ∧ (x21.toInt ≤ 127) ∧ (0 ≤ x22.toInt) ∧ (x22.toInt ≤ 1000000) ∧ (0 ≤ x24.toInt) ∧ (x24.toInt ≤ 1) ∧ (0 ≤ x26.toInt) ∧ (x26.toInt ≤ 2000000) ∧ (aR f8 400 (0) 255) ∧ (aR f25 130 (0) 127) ∧ va_P (dC, dI) vwCl (rw_W o c kc (rU (rU (rU (rU (rU (rU (rU (rU st 9 x9) 13 x13) 16 x16) 17 x17) 21 x21) 22 x22) 24 x24) 26 x26) (rU (rU lg 23 y23) 27 y27) (rU (rU (rU (rU ai 8 f8) 19 f19) 20 f20) 25 f25) (rU (rU al 18 g18) 28 g28)) t.heap) A) ([.ref o, .int p0] : List Value).toArray s 0 0 A) (F0 m 47 ls [.int jt_30, .ref o]) := by
          intro jt_30 H locs ls ij0_30 ij1_30 ij2_30 hP hS hl
          refine va_put (D := (dC, dI)) (ci := 11) (v := .int jt_30) (ty := .int) (C := RX9) (T := TX9) (N := 38) hx hb hts hin9 tyX9 tyX9_ok nmX9 hown hK hP (rw_D hD) hS 0 rfl rfl 13 (by decide) (hts (.fieldLink RX9 91 "BlockLogModel" "thrown" "I") (by decide +kernel)) (fun _ h9 => h9) rfl (by decide +kernel) rfl rfl (Nat.le_of_ble_eq_true rfl) dX9_out_47 (fun H locs hP _ hS => ?_)
          have hP : va_P (dC, dI) vwCl (rw_W o c kc (rU (rU (rU (rU (rU (rU (rU st 13 jt_30) 16 x16_4) 17 x17_4) 21 x21_4) 22 x22_4) 24 x24_4) 26 x26_4) (rU (rU lg 23 y23_4) 27 y27_4) (rU (rU (rU ai 19 f19_4) 20 f20_4) 25 f25_4) (rU al 18 g18_4)) H := hP
          refine lv_aload_n hx hb dX9_out_50 rfl (lv_at hl 0 rfl) ?_
          refine va_get (D := (dC, dI)) (ci := 11) (v := .int jt_30) (C := RX9) (T := TX9) (N := 38) hx hb hts hin9 hown hK hP 0 rfl rfl 13 (by decide) (hts (.fieldLink RX9 91 "BlockLogModel" "thrown" "I") (by decide +kernel)) (fun _ h9 => h9) rfl dX9_out_51 ?_
          refine lv_if_le (tgt := 59) hx hb dX9_out_54 (by decide) (fun c_22 => ?_) (fun c_22 => ?_)
          · skip
            have ic_22 := iv_le c_22
            refine lv_aload_n hx hb dX9_out_59 rfl (lv_at hl 0 rfl) ?_
            refine lv_iload_n hx hb dX9_out_60 rfl (lv_at hl 1 rfl) ?_
            have hFc := vfree (rw_D hD : va_D A (rw_W o c kc (rU (rU (rU (rU (rU (rU (rU st 13 jt_30) 16 x16_4) 17 x17_4) 21 x21_4) 22 x22_4) 24 x24_4) 26 x26_4) (rU (rU lg 23 y23_4) 27 y27_4) (rU (rU (rU ai 19 f19_4) 20 f20_4) 25 f25_4) (rU al 18 g18_4))) hS hA
            refine va_callv (va_runV (As := [.int p0]) (rest := []) ⟨hx, hb, hml, hown, hts⟩ (v_X9_versionState l dC dI o c kc (rU (rU (rU (rU (rU (rU (rU st 13 jt_30) 16 x16_4) 17 x17_4) 21 x21_4) 22 x22_4) 24 x24_4) 26 x26_4) (rU (rU lg 23 y23_4) 27 y27_4) (rU (rU (rU ai 19 f19_4) 20 f20_4) 25 f25_4) (rU al 18 g18_4) p0 _ (show 0 ≤ (st 7).toInt by omega) (show (st 7).toInt ≤ 1 by omega) (show 0 ≤ x16_4.toInt by omega) (show x16_4.toInt ≤ 128 by omega) (show 0 ≤ x22_4.toInt by omega) (show x22_4.toInt ≤ 1000000 by omega) (show 0 ≤ x24_4.toInt by omega) (show x24_4.toInt ≤ 1 by omega) (show 0 ≤ x26_4.toInt by omega) (show x26_4.toInt ≤ 2000000 by omega) (show x22_4.toInt ≤ p0.toInt by omega) (show p0.toInt - x22_4.toInt ≤ 128 by omega) (show p0.toInt ≤ x26_4.toInt by omega) (show aR f25_4 130 (0) 127 from hR25) (show vOK (ai 0) (st 7) x16_4 f25_4 (x26_4.toInt - x22_4.toInt) from (by assumption)) (show bOK (ai 0) (st 7) x16_4 x24_4 from (by assumption))) (cwV 1 hts gX9_out_X9_versionState rfl rfl rfl (by decide +kernel) ⟨Nat.le_of_ble_eq_true rfl, Nat.le_of_ble_eq_true rfl⟩) ⟨fun a U g mk q => by obtain ⟨q0, q1, qP, qK, qD⟩ := q; exact ⟨q0, q1, qP, va_K.moved (u := U) (U := U.calling g mk a) (Vm.Alike.refl U.vm) qK, qD⟩, va_recv hK hP (ci := 11) (q := (RX9, TX9, 38)) rfl (q0 := 0) rfl, fun U hU hW => ⟨rfl, by rw [hU], by rw [hU]; exact hP, va_K.moved hW.alike hK, rw_D (hD.weaken (fun _ _ _ _ => trivial))⟩⟩ rfl rfl hl.1 rfl (lv_room (Nat.le_of_ble_eq_true rfl)) dX9_out_61 ⟨Nat.le_of_ble_eq_true rfl, Nat.le_of_ble_eq_true rfl⟩) hS (fun q _ h => hFc q h) hFc (fun ur_23 t H1 locs ht hvm er_23 hB hz1 hk1 hS => ?_)
            obtain ⟨g28_23, hSt, hP1⟩ := hB
            rw [ht] at hP1
            clear hFc hz1 hk1 hvm hP
            subst ht
            have hP := hP1
            clear hP1
            generalize t.heap = H at hP hS ⊢
            have hP : va_P (dC, dI) vwCl (rw_W o c kc (rU (rU (rU (rU (rU (rU (rU st 13 jt_30) 16 x16_4) 17 x17_4) 21 x21_4) 22 x22_4) 24 x24_4) 26 x26_4) (rU (rU lg 23 y23_4) 27 y27_4) (rU (rU (rU ai 19 f19_4) 20 f20_4) 25 f25_4) (rU (rU al 18 g18_4) 28 g28_23)) H := hP
            have hSt : sOK (ai 0) (st 7) g28_23 := hSt
            refine lv_iconst (v := 0) hx hb dX9_out_64 (by decide) ?_
            refine lv_istore_n (lv' := [(2, .int (0 : Int32)), (0, .ref o), (1, .int p0)]) hx hb dX9_out_65 rfl hl (by decide) rfl (fun ls hl => ?_)
            have loop66 : ∀ (n : Nat) (l2_66 : Int32) (H : Heap) (locs : List Loc) (ls : Array Slot), (0 ≤ l2_66.toInt) → (l2_66.toInt ≤ 16) → (ppI (ai 0) (st 1) g28_23 l2_66) → (16 - l2_66.toInt : Int).toNat < n → va_P (dC, dI) vwCl (rw_W o c kc (rU (rU (rU (rU (rU (rU (rU st 13 jt_30) 16 x16_4) 17 x17_4) 21 x21_4) 22 x22_4) 24 x24_4) 26 x26_4) (rU (rU lg 23 y23_4) 27 y27_4) (rU (rU (rU ai 19 f19_4) 20 f20_4) 25 f25_4) (rU (rU al 18 g18_4) 28 g28_23)) H → va_S A s.heap H locs → lv_has ls 6 [(2, .int l2_66), (0, .ref o), (1, .int p0)] → W p l e (headSpec wsX9_out ({ frames := 7, cells := 0, slots := 0, locals := 159 })).room s m ([.ref o, .int p0] : List Value).toArray below meth cM H locs 0 0 (MQ below (va_Qi (fun r (u : Int32) => r = u) (fun u t => ∃ (x9 : Int32) (x13 : Int32) (x16 : Int32) (x17 : Int32) (x21 : Int32) (x22 : Int32) (x24 : Int32) (x26 : Int32) (y23 : Int64) (y27 : Int64) (f8 : Nat → Int32) (f19 : Nat → Int32) (f20 : Nat → Int32) (f25 : Nat → Int32) (g18 : Nat → Int64) (g28 : Nat → Int64), (0 ≤ x9.toInt) ∧ (x9.toInt ≤ 400) ∧ (0 ≤ x16.toInt) ∧ (x16.toInt ≤ 128) ∧ (0 ≤ x17.toInt) ∧ (x17.toInt ≤ 1) ∧ (-1 ≤ x21.toInt) ∧ (x21.toInt ≤ 127) ∧ (0 ≤ x22.toInt) ∧ (x22.toInt ≤ 1000000) ∧ (0 ≤ x24.toInt) ∧ (x24.toInt ≤ 1) ∧ (0 ≤ x26.toInt) ∧ (x26.toInt ≤ 2000000) ∧ (aR f8 400 (0) 255) ∧ (aR f25 130 (0) 127) ∧ va_P (dC, dI) vwCl (rw_W o c kc (rU (rU (rU (rU (rU (rU (rU (rU st 9 x9) 13 x13) 16 x16) 17 x17) 21 x21) 22 x22) 24 x24) 26 x26) (rU (rU lg 23 y23) 27 y27) (rU (rU (rU (rU ai 8 f8) 19 f19) 20 f20) 25 f25) (rU (rU al 18 g18) 28 g28)) t.heap) A) ([.ref o, .int p0] : List Value).toArray s 0 0 A) (F0 m 66 ls []) := by
              intro n
              induction n with
              | zero => intro l2_66 H locs ls if0_66 if1_66 hpp hm; exact absurd hm (Nat.not_lt_zero _)
              | succ n ih66 =>
                intro l2_66 H locs ls if0_66 if1_66 hpp hm66 hP hS hl
                refine lv_iload_n hx hb dX9_out_66 rfl (lv_at hl 0 rfl) ?_
                refine lv_bipush (v := 16) hx hb dX9_out_67 (by decide) ?_
                refine lv_icmp_ge (tgt := 106) hx hb dX9_out_69 (by decide) (fun c_24 => ?_) (fun c_24 => ?_)
                · skip
                  have ic_24 := iv_le c_24
                  refine lv_aload_n hx hb dX9_out_106 rfl (lv_at hl 1 rfl) ?_
                  refine lv_iconst (v := 0) hx hb dX9_out_107 (by decide) ?_
                  refine va_put (D := (dC, dI)) (ci := 11) (v := .int (0 : Int32)) (ty := .int) (C := RX9) (T := TX9) (N := 38) hx hb hts hin9 tyX9 tyX9_ok nmX9 hown hK hP (rw_D hD) hS 0 rfl rfl 9 (by decide) (hts (.fieldLink RX9 271 "BlockLogModel" "tapeSize" "I") (by decide +kernel)) (fun _ h9 => h9) rfl (by decide +kernel) rfl rfl (Nat.le_of_ble_eq_true rfl) dX9_out_108 (fun H locs hP _ hS => ?_)
                  have hP : va_P (dC, dI) vwCl (rw_W o c kc (rU (rU (rU (rU (rU (rU (rU (rU st 9 (0 : Int32)) 13 jt_30) 16 x16_4) 17 x17_4) 21 x21_4) 22 x22_4) 24 x24_4) 26 x26_4) (rU (rU lg 23 y23_4) 27 y27_4) (rU (rU (rU ai 19 f19_4) 20 f20_4) 25 f25_4) (rU (rU al 18 g18_4) 28 g28_23)) H := hP
                  refine lv_aload_n hx hb dX9_out_111 rfl (lv_at hl 1 rfl) ?_
                  refine lv_iload_n hx hb dX9_out_112 rfl (lv_at hl 2 rfl) ?_
                  refine lv_i2l hx hb dX9_out_113 rfl ?_
                  refine lv_topl (fun w_25 ew_25 => ?_)
                  refine lv_iconst (v := 4) hx hb dX9_out_114 (by decide) ?_
                  have hFc := vfree (rw_D hD : va_D A (rw_W o c kc (rU (rU (rU (rU (rU (rU (rU (rU st 9 (0 : Int32)) 13 jt_30) 16 x16_4) 17 x17_4) 21 x21_4) 22 x22_4) 24 x24_4) 26 x26_4) (rU (rU lg 23 y23_4) 27 y27_4) (rU (rU (rU ai 19 f19_4) 20 f20_4) 25 f25_4) (rU (rU al 18 g18_4) 28 g28_23))) hS hA
                  refine va_callv (va_runV (As := [.long w_25, .int (4 : Int32)]) (rest := []) ⟨hx, hb, hml, hown, hts⟩ (v_X9_toTape l dC dI o c kc (rU (rU (rU (rU (rU (rU (rU (rU st 9 (0 : Int32)) 13 jt_30) 16 x16_4) 17 x17_4) 21 x21_4) 22 x22_4) 24 x24_4) 26 x26_4) (rU (rU lg 23 y23_4) 27 y27_4) (rU (rU (rU ai 19 f19_4) 20 f20_4) 25 f25_4) (rU (rU al 18 g18_4) 28 g28_23) w_25 (4 : Int32) _ (show 0 ≤ (0 : Int32).toInt by decide) (show (0 : Int32).toInt ≤ 400 by decide) (by omega) (by omega) (show 0 + 4 ≤ 400 by omega) (show aR (ai 8) 400 (0) 255 from hR8)) (cwV 2 hts gX9_out_X9_toTape rfl rfl rfl (by decide +kernel) ⟨Nat.le_of_ble_eq_true rfl, Nat.le_of_ble_eq_true rfl⟩) ⟨fun a U g mk q => by obtain ⟨q0, q1, qP, qK, qD⟩ := q; exact ⟨q0, q1, qP, va_K.moved (u := U) (U := U.calling g mk a) (Vm.Alike.refl U.vm) qK, qD⟩, va_recv hK hP (ci := 11) (q := (RX9, TX9, 38)) rfl (q0 := 0) rfl, fun U hU hW => ⟨rfl, by rw [hU], by rw [hU]; exact hP, va_K.moved hW.alike hK, rw_D (hD.weaken (fun _ _ _ _ => trivial))⟩⟩ rfl rfl hl.1 rfl (lv_room (Nat.le_of_ble_eq_true rfl)) dX9_out_115 ⟨Nat.le_of_ble_eq_true rfl, Nat.le_of_ble_eq_true rfl⟩) hS (fun q _ h => hFc q h) hFc (fun ur_26 t H1 locs ht hvm er_26 hB hz1 hk1 hS => ?_)
                  obtain ⟨x9_26, f8_26, k_27, k_28, k_29, hR8, hP1⟩ := hB
                  rw [ht] at hP1
                  clear hFc hz1 hk1 hvm hP
                  subst ht
                  have hP := hP1
                  clear hP1
                  generalize t.heap = H at hP hS ⊢
                  have hP : va_P (dC, dI) vwCl (rw_W o c kc (rU (rU (rU (rU (rU (rU (rU (rU st 9 x9_26) 13 jt_30) 16 x16_4) 17 x17_4) 21 x21_4) 22 x22_4) 24 x24_4) 26 x26_4) (rU (rU lg 23 y23_4) 27 y27_4) (rU (rU (rU (rU ai 8 f8_26) 19 f19_4) 20 f20_4) 25 f25_4) (rU (rU al 18 g18_4) 28 g28_23)) H := hP
                  have k_27 : x9_26.toInt = 0 + 4 := k_27
                  have k_28 : 0 ≤ x9_26.toInt := k_28
                  have k_29 : x9_26.toInt ≤ 400 := k_29
                  have hR8 : aR f8_26 400 (0) 255 := hR8
                  refine lv_aload_n hx hb dX9_out_118 rfl (lv_at hl 1 rfl) ?_
                  refine lv_aload_n hx hb dX9_out_119 rfl (lv_at hl 1 rfl) ?_
                  refine lv_iload_n hx hb dX9_out_120 rfl (lv_at hl 2 rfl) ?_
                  refine vp_callSl (va_Run.run (va_runV (As := [.int p0]) (rest := [.ref o]) ⟨hx, hb, hml, hown, hts⟩ (v_X9_versionDigest l dC dI o c kc (rU (rU (rU (rU (rU (rU (rU (rU st 9 x9_26) 13 jt_30) 16 x16_4) 17 x17_4) 21 x21_4) 22 x22_4) 24 x24_4) 26 x26_4) (rU (rU lg 23 y23_4) 27 y27_4) (rU (rU (rU (rU ai 8 f8_26) 19 f19_4) 20 f20_4) 25 f25_4) (rU (rU al 18 g18_4) 28 g28_23) p0 (show 0 ≤ x22_4.toInt by omega) (show x22_4.toInt ≤ 1000000 by omega) (show x22_4.toInt ≤ p0.toInt by omega) (show p0.toInt - x22_4.toInt ≤ 128 by omega) (show aR f25_4 130 (0) 127 from hR25)) (cwV 1 hts gX9_out_X9_versionDigest rfl rfl rfl (by decide +kernel) ⟨Nat.le_of_ble_eq_true rfl, Nat.le_of_ble_eq_true rfl⟩) ⟨fun a U g mk q => by obtain ⟨q0, qP, qK⟩ := q; exact ⟨q0, qP, va_K.moved (u := U) (U := U.calling g mk a) (Vm.Alike.refl U.vm) qK⟩, va_recv hK hP (ci := 11) (q := (RX9, TX9, 38)) rfl (q0 := 0) rfl, fun U hU hW => ⟨rfl, by rw [hU]; exact hP, va_K.moved hW.alike hK⟩⟩ rfl rfl hl.1 rfl (lv_room (Nat.le_of_ble_eq_true rfl)) dX9_out_121 ⟨Nat.le_of_ble_eq_true rfl, Nat.le_of_ble_eq_true rfl⟩)) (fun r_30 er_30 => ?_)
                  refine lv_bipush (v := 8) hx hb dX9_out_124 (by decide) ?_
                  have hFc := vfree (rw_D hD : va_D A (rw_W o c kc (rU (rU (rU (rU (rU (rU (rU (rU st 9 x9_26) 13 jt_30) 16 x16_4) 17 x17_4) 21 x21_4) 22 x22_4) 24 x24_4) 26 x26_4) (rU (rU lg 23 y23_4) 27 y27_4) (rU (rU (rU (rU ai 8 f8_26) 19 f19_4) 20 f20_4) 25 f25_4) (rU (rU al 18 g18_4) 28 g28_23))) hS hA
                  refine va_callv (va_runV (As := [.long r_30, .int (8 : Int32)]) (rest := []) ⟨hx, hb, hml, hown, hts⟩ (v_X9_toTape l dC dI o c kc (rU (rU (rU (rU (rU (rU (rU (rU st 9 x9_26) 13 jt_30) 16 x16_4) 17 x17_4) 21 x21_4) 22 x22_4) 24 x24_4) 26 x26_4) (rU (rU lg 23 y23_4) 27 y27_4) (rU (rU (rU (rU ai 8 f8_26) 19 f19_4) 20 f20_4) 25 f25_4) (rU (rU al 18 g18_4) 28 g28_23) r_30 (8 : Int32) _ (show 0 ≤ x9_26.toInt by omega) (show x9_26.toInt ≤ 400 by omega) (by omega) (by omega) (show x9_26.toInt + 8 ≤ 400 by omega) (show aR f8_26 400 (0) 255 from hR8)) (cwV 2 hts gX9_out_X9_toTape rfl rfl rfl (by decide +kernel) ⟨Nat.le_of_ble_eq_true rfl, Nat.le_of_ble_eq_true rfl⟩) ⟨fun a U g mk q => by obtain ⟨q0, q1, qP, qK, qD⟩ := q; exact ⟨q0, q1, qP, va_K.moved (u := U) (U := U.calling g mk a) (Vm.Alike.refl U.vm) qK, qD⟩, va_recv hK hP (ci := 11) (q := (RX9, TX9, 38)) rfl (q0 := 0) rfl, fun U hU hW => ⟨rfl, by rw [hU], by rw [hU]; exact hP, va_K.moved hW.alike hK, rw_D (hD.weaken (fun _ _ _ _ => trivial))⟩⟩ rfl rfl hl.1 rfl (lv_room (Nat.le_of_ble_eq_true rfl)) dX9_out_126 ⟨Nat.le_of_ble_eq_true rfl, Nat.le_of_ble_eq_true rfl⟩) hS (fun q _ h => hFc q h) hFc (fun ur_31 t H1 locs ht hvm er_31 hB hz1 hk1 hS => ?_)
                  obtain ⟨x9_31, f8_31, k_32, k_33, k_34, hR8, hP1⟩ := hB
                  rw [ht] at hP1
                  clear hFc hz1 hk1 hvm hP
                  subst ht
                  have hP := hP1
                  clear hP1
                  generalize t.heap = H at hP hS ⊢
                  have hP : va_P (dC, dI) vwCl (rw_W o c kc (rU (rU (rU (rU (rU (rU (rU (rU st 9 x9_31) 13 jt_30) 16 x16_4) 17 x17_4) 21 x21_4) 22 x22_4) 24 x24_4) 26 x26_4) (rU (rU lg 23 y23_4) 27 y27_4) (rU (rU (rU (rU ai 8 f8_31) 19 f19_4) 20 f20_4) 25 f25_4) (rU (rU al 18 g18_4) 28 g28_23)) H := hP
                  have k_32 : x9_31.toInt = x9_26.toInt + 8 := k_32
                  have k_33 : 0 ≤ x9_31.toInt := k_33
                  have k_34 : x9_31.toInt ≤ 400 := k_34
                  have hR8 : aR f8_31 400 (0) 255 := hR8
                  refine lv_aload_n hx hb dX9_out_129 rfl (lv_at hl 1 rfl) ?_
                  refine lv_aload_n hx hb dX9_out_130 rfl (lv_at hl 1 rfl) ?_
                  refine vp_callSi (va_Run.run (va_runV (As := []) (rest := [.ref o]) ⟨hx, hb, hml, hown, hts⟩ (v_X9_slotsWithLeaf l dC dI o c kc (rU (rU (rU (rU (rU (rU (rU (rU st 9 x9_31) 13 jt_30) 16 x16_4) 17 x17_4) 21 x21_4) 22 x22_4) 24 x24_4) 26 x26_4) (rU (rU lg 23 y23_4) 27 y27_4) (rU (rU (rU (rU ai 8 f8_31) 19 f19_4) 20 f20_4) 25 f25_4) (rU (rU al 18 g18_4) 28 g28_23)  ) (cwV 0 hts gX9_out_X9_slotsWithLeaf rfl rfl rfl (by decide +kernel) ⟨Nat.le_of_ble_eq_true rfl, Nat.le_of_ble_eq_true rfl⟩) ⟨fun a U g mk q => by obtain ⟨q0, qP, qK⟩ := q; exact ⟨q0, qP, va_K.moved (u := U) (U := U.calling g mk a) (Vm.Alike.refl U.vm) qK⟩, va_recv hK hP (ci := 11) (q := (RX9, TX9, 38)) rfl (q0 := 0) rfl, fun U hU hW => ⟨rfl, by rw [hU]; exact hP, va_K.moved hW.alike hK⟩⟩ rfl rfl hl.1 rfl (lv_room (Nat.le_of_ble_eq_true rfl)) dX9_out_131 ⟨Nat.le_of_ble_eq_true rfl, Nat.le_of_ble_eq_true rfl⟩)) (fun r_35 er_35 => ?_)
                  obtain ⟨k_36, k_37, hcn⟩ := er_35
                  have hcn : r_35.toInt = (cntL g28_23 16 : Int) := hcn
                  refine lv_i2l hx hb dX9_out_134 rfl ?_
                  refine lv_topl (fun w_38 ew_38 => ?_)
                  refine lv_iconst (v := 1) hx hb dX9_out_135 (by decide) ?_
                  have hFc := vfree (rw_D hD : va_D A (rw_W o c kc (rU (rU (rU (rU (rU (rU (rU (rU st 9 x9_31) 13 jt_30) 16 x16_4) 17 x17_4) 21 x21_4) 22 x22_4) 24 x24_4) 26 x26_4) (rU (rU lg 23 y23_4) 27 y27_4) (rU (rU (rU (rU ai 8 f8_31) 19 f19_4) 20 f20_4) 25 f25_4) (rU (rU al 18 g18_4) 28 g28_23))) hS hA
                  refine va_callv (va_runV (As := [.long w_38, .int (1 : Int32)]) (rest := []) ⟨hx, hb, hml, hown, hts⟩ (v_X9_toTape l dC dI o c kc (rU (rU (rU (rU (rU (rU (rU (rU st 9 x9_31) 13 jt_30) 16 x16_4) 17 x17_4) 21 x21_4) 22 x22_4) 24 x24_4) 26 x26_4) (rU (rU lg 23 y23_4) 27 y27_4) (rU (rU (rU (rU ai 8 f8_31) 19 f19_4) 20 f20_4) 25 f25_4) (rU (rU al 18 g18_4) 28 g28_23) w_38 (1 : Int32) _ (show 0 ≤ x9_31.toInt by omega) (show x9_31.toInt ≤ 400 by omega) (by omega) (by omega) (show x9_31.toInt + 1 ≤ 400 by omega) (show aR f8_31 400 (0) 255 from hR8)) (cwV 2 hts gX9_out_X9_toTape rfl rfl rfl (by decide +kernel) ⟨Nat.le_of_ble_eq_true rfl, Nat.le_of_ble_eq_true rfl⟩) ⟨fun a U g mk q => by obtain ⟨q0, q1, qP, qK, qD⟩ := q; exact ⟨q0, q1, qP, va_K.moved (u := U) (U := U.calling g mk a) (Vm.Alike.refl U.vm) qK, qD⟩, va_recv hK hP (ci := 11) (q := (RX9, TX9, 38)) rfl (q0 := 0) rfl, fun U hU hW => ⟨rfl, by rw [hU], by rw [hU]; exact hP, va_K.moved hW.alike hK, rw_D (hD.weaken (fun _ _ _ _ => trivial))⟩⟩ rfl rfl hl.1 rfl (lv_room (Nat.le_of_ble_eq_true rfl)) dX9_out_136 ⟨Nat.le_of_ble_eq_true rfl, Nat.le_of_ble_eq_true rfl⟩) hS (fun q _ h => hFc q h) hFc (fun ur_39 t H1 locs ht hvm er_39 hB hz1 hk1 hS => ?_)
                  obtain ⟨x9_39, f8_39, k_40, k_41, k_42, hR8, hP1⟩ := hB
                  rw [ht] at hP1
                  clear hFc hz1 hk1 hvm hP
                  subst ht
                  have hP := hP1
                  clear hP1
                  generalize t.heap = H at hP hS ⊢
                  have hP : va_P (dC, dI) vwCl (rw_W o c kc (rU (rU (rU (rU (rU (rU (rU (rU st 9 x9_39) 13 jt_30) 16 x16_4) 17 x17_4) 21 x21_4) 22 x22_4) 24 x24_4) 26 x26_4) (rU (rU lg 23 y23_4) 27 y27_4) (rU (rU (rU (rU ai 8 f8_39) 19 f19_4) 20 f20_4) 25 f25_4) (rU (rU al 18 g18_4) 28 g28_23)) H := hP
                  have k_40 : x9_39.toInt = x9_31.toInt + 1 := k_40
                  have k_41 : 0 ≤ x9_39.toInt := k_41
                  have k_42 : x9_39.toInt ≤ 400 := k_42
                  have hR8 : aR f8_39 400 (0) 255 := hR8
                  refine lv_iconst (v := 0) hx hb dX9_out_139 (by decide) ?_
                  refine lv_istore_n (lv' := [(2, .int (0 : Int32)), (0, .ref o), (1, .int p0)]) hx hb dX9_out_140 rfl hl (by decide) rfl (fun ls hl => ?_)
                  have loop141 : ∀ (n : Nat) (l2_141 : Int32) (s9_141 : Int32) (a8_141 : Nat → Int32) (H : Heap) (locs : List Loc) (ls : Array Slot), (0 ≤ l2_141.toInt) → (l2_141.toInt ≤ 16) → (s9_141.toInt ≤ 13 + 18 * l2_141.toInt) → (0 ≤ s9_141.toInt) → (s9_141.toInt ≤ 400) → (aR a8_141 400 (0) 255) → (16 - l2_141.toInt : Int).toNat < n → va_P (dC, dI) vwCl (rw_W o c kc (rU (rU (rU (rU (rU (rU (rU (rU st 9 s9_141) 13 jt_30) 16 x16_4) 17 x17_4) 21 x21_4) 22 x22_4) 24 x24_4) 26 x26_4) (rU (rU lg 23 y23_4) 27 y27_4) (rU (rU (rU (rU ai 8 a8_141) 19 f19_4) 20 f20_4) 25 f25_4) (rU (rU al 18 g18_4) 28 g28_23)) H → va_S A s.heap H locs → lv_has ls 6 [(2, .int l2_141), (0, .ref o), (1, .int p0)] → W p l e (headSpec wsX9_out ({ frames := 7, cells := 0, slots := 0, locals := 159 })).room s m ([.ref o, .int p0] : List Value).toArray below meth cM H locs 0 0 (MQ below (va_Qi (fun r (u : Int32) => r = u) (fun u t => ∃ (x9 : Int32) (x13 : Int32) (x16 : Int32) (x17 : Int32) (x21 : Int32) (x22 : Int32) (x24 : Int32) (x26 : Int32) (y23 : Int64) (y27 : Int64) (f8 : Nat → Int32) (f19 : Nat → Int32) (f20 : Nat → Int32) (f25 : Nat → Int32) (g18 : Nat → Int64) (g28 : Nat → Int64), (0 ≤ x9.toInt) ∧ (x9.toInt ≤ 400) ∧ (0 ≤ x16.toInt) ∧ (x16.toInt ≤ 128) ∧ (0 ≤ x17.toInt) ∧ (x17.toInt ≤ 1) ∧ (-1 ≤ x21.toInt) ∧ (x21.toInt ≤ 127) ∧ (0 ≤ x22.toInt) ∧ (x22.toInt ≤ 1000000) ∧ (0 ≤ x24.toInt) ∧ (x24.toInt ≤ 1) ∧ (0 ≤ x26.toInt) ∧ (x26.toInt ≤ 2000000) ∧ (aR f8 400 (0) 255) ∧ (aR f25 130 (0) 127) ∧ va_P (dC, dI) vwCl (rw_W o c kc (rU (rU (rU (rU (rU (rU (rU (rU st 9 x9) 13 x13) 16 x16) 17 x17) 21 x21) 22 x22) 24 x24) 26 x26) (rU (rU lg 23 y23) 27 y27) (rU (rU (rU (rU ai 8 f8) 19 f19) 20 f20) 25 f25) (rU (rU al 18 g18) 28 g28)) t.heap) A) ([.ref o, .int p0] : List Value).toArray s 0 0 A) (F0 m 141 ls []) := by
                    intro n
                    induction n with
                    | zero => intro l2_141 s9_141 a8_141 H locs ls if0_141 if1_141 if2_141 if3_141 if4_141 hR8 hm; exact absurd hm (Nat.not_lt_zero _)
                    | succ n ih141 =>
                      intro l2_141 s9_141 a8_141 H locs ls if0_141 if1_141 if2_141 if3_141 if4_141 hR8 hm141 hP hS hl
                      refine lv_iload_n hx hb dX9_out_141 rfl (lv_at hl 0 rfl) ?_
                      refine lv_bipush (v := 16) hx hb dX9_out_142 (by decide) ?_
                      refine lv_icmp_ge (tgt := 233) hx hb dX9_out_144 (by decide) (fun c_43 => ?_) (fun c_43 => ?_)
                      · skip
                        have ic_43 := iv_le c_43
                        refine lv_aload_n hx hb dX9_out_233 rfl (lv_at hl 1 rfl) ?_
                        refine lv_aload_n hx hb dX9_out_234 rfl (lv_at hl 1 rfl) ?_
                        refine lv_aload_n hx hb dX9_out_235 rfl (lv_at hl 1 rfl) ?_
                        refine va_get (D := (dC, dI)) (ci := 11) (v := .int s9_141) (C := RX9) (T := TX9) (N := 38) hx hb hts hin9 hown hK hP 0 rfl rfl 9 (by decide) (hts (.fieldLink RX9 271 "BlockLogModel" "tapeSize" "I") (by decide +kernel)) (fun _ h9 => h9) rfl dX9_out_236 ?_
                        refine vp_callSl (va_Run.run (va_runV (As := [.int s9_141]) (rest := [.ref o]) ⟨hx, hb, hml, hown, hts⟩ (v_X9_tapeSum l dC dI o c kc (rU (rU (rU (rU (rU (rU (rU (rU st 9 s9_141) 13 jt_30) 16 x16_4) 17 x17_4) 21 x21_4) 22 x22_4) 24 x24_4) 26 x26_4) (rU (rU lg 23 y23_4) 27 y27_4) (rU (rU (rU (rU ai 8 a8_141) 19 f19_4) 20 f20_4) 25 f25_4) (rU (rU al 18 g18_4) 28 g28_23) s9_141 (by omega) (by omega) (show aR a8_141 400 (0) 255 from hR8)) (cwV 1 hts gX9_out_X9_tapeSum rfl rfl rfl (by decide +kernel) ⟨Nat.le_of_ble_eq_true rfl, Nat.le_of_ble_eq_true rfl⟩) ⟨fun a U g mk q => by obtain ⟨q0, qP, qK⟩ := q; exact ⟨q0, qP, va_K.moved (u := U) (U := U.calling g mk a) (Vm.Alike.refl U.vm) qK⟩, va_recv hK hP (ci := 11) (q := (RX9, TX9, 38)) rfl (q0 := 0) rfl, fun U hU hW => ⟨rfl, by rw [hU]; exact hP, va_K.moved hW.alike hK⟩⟩ rfl rfl hl.1 rfl (lv_room (Nat.le_of_ble_eq_true rfl)) dX9_out_239 ⟨Nat.le_of_ble_eq_true rfl, Nat.le_of_ble_eq_true rfl⟩)) (fun r_44 er_44 => ?_)
                        refine lv_bipush (v := 8) hx hb dX9_out_242 (by decide) ?_
                        have hFc := vfree (rw_D hD : va_D A (rw_W o c kc (rU (rU (rU (rU (rU (rU (rU (rU st 9 s9_141) 13 jt_30) 16 x16_4) 17 x17_4) 21 x21_4) 22 x22_4) 24 x24_4) 26 x26_4) (rU (rU lg 23 y23_4) 27 y27_4) (rU (rU (rU (rU ai 8 a8_141) 19 f19_4) 20 f20_4) 25 f25_4) (rU (rU al 18 g18_4) 28 g28_23))) hS hA
                        refine va_callv (va_runV (As := [.long r_44, .int (8 : Int32)]) (rest := []) ⟨hx, hb, hml, hown, hts⟩ (v_X9_toTape l dC dI o c kc (rU (rU (rU (rU (rU (rU (rU (rU st 9 s9_141) 13 jt_30) 16 x16_4) 17 x17_4) 21 x21_4) 22 x22_4) 24 x24_4) 26 x26_4) (rU (rU lg 23 y23_4) 27 y27_4) (rU (rU (rU (rU ai 8 a8_141) 19 f19_4) 20 f20_4) 25 f25_4) (rU (rU al 18 g18_4) 28 g28_23) r_44 (8 : Int32) _ (show 0 ≤ s9_141.toInt by omega) (show s9_141.toInt ≤ 400 by omega) (by omega) (by omega) (show s9_141.toInt + 8 ≤ 400 by omega) (show aR a8_141 400 (0) 255 from hR8)) (cwV 2 hts gX9_out_X9_toTape rfl rfl rfl (by decide +kernel) ⟨Nat.le_of_ble_eq_true rfl, Nat.le_of_ble_eq_true rfl⟩) ⟨fun a U g mk q => by obtain ⟨q0, q1, qP, qK, qD⟩ := q; exact ⟨q0, q1, qP, va_K.moved (u := U) (U := U.calling g mk a) (Vm.Alike.refl U.vm) qK, qD⟩, va_recv hK hP (ci := 11) (q := (RX9, TX9, 38)) rfl (q0 := 0) rfl, fun U hU hW => ⟨rfl, by rw [hU], by rw [hU]; exact hP, va_K.moved hW.alike hK, rw_D (hD.weaken (fun _ _ _ _ => trivial))⟩⟩ rfl rfl hl.1 rfl (lv_room (Nat.le_of_ble_eq_true rfl)) dX9_out_244 ⟨Nat.le_of_ble_eq_true rfl, Nat.le_of_ble_eq_true rfl⟩) hS (fun q _ h => hFc q h) hFc (fun ur_45 t H1 locs ht hvm er_45 hB hz1 hk1 hS => ?_)
                        obtain ⟨x9_45, f8_45, k_46, k_47, k_48, hR8, hP1⟩ := hB
                        rw [ht] at hP1
                        clear hFc hz1 hk1 hvm hP
                        subst ht
                        have hP := hP1
                        clear hP1
                        generalize t.heap = H at hP hS ⊢
                        have hP : va_P (dC, dI) vwCl (rw_W o c kc (rU (rU (rU (rU (rU (rU (rU (rU st 9 x9_45) 13 jt_30) 16 x16_4) 17 x17_4) 21 x21_4) 22 x22_4) 24 x24_4) 26 x26_4) (rU (rU lg 23 y23_4) 27 y27_4) (rU (rU (rU (rU ai 8 f8_45) 19 f19_4) 20 f20_4) 25 f25_4) (rU (rU al 18 g18_4) 28 g28_23)) H := hP
                        have k_46 : x9_45.toInt = s9_141.toInt + 8 := k_46
                        have k_47 : 0 ≤ x9_45.toInt := k_47
                        have k_48 : x9_45.toInt ≤ 400 := k_48
                        have hR8 : aR f8_45 400 (0) 255 := hR8
                        refine lv_aload_n hx hb dX9_out_247 rfl (lv_at hl 1 rfl) ?_
                        refine va_get (D := (dC, dI)) (ci := 11) (v := .int x9_45) (C := RX9) (T := TX9) (N := 38) hx hb hts hin9 hown hK hP 0 rfl rfl 9 (by decide) (hts (.fieldLink RX9 271 "BlockLogModel" "tapeSize" "I") (by decide +kernel)) (fun _ h9 => h9) rfl dX9_out_248 ?_
                        exact W.iret hx hb hr (fun t ht hW => ⟨⟨_, _, rfl, rfl, x9_45, jt_30, x16_4, x17_4, x21_4, x22_4, x24_4, x26_4, y23_4, y27_4, f8_45, f19_4, f20_4, f25_4, g18_4, g28_23, (by omega), (by omega), (by omega), (by omega), (by omega), (by omega), (by omega), (by omega), (by omega), (by omega), (by omega), (by omega), (by omega), (by omega), hR8, hR25, by rw [ht]; exact hP⟩, hS.F ht⟩) hS.2.2 dX9_out_251
                      · skip
                        have ic_43 := iv_nle c_43
                        refine lv_aload_n hx hb dX9_out_147 rfl (lv_at hl 1 rfl) ?_
                        refine va_get (D := (dC, dI)) (ci := 11) (v := .ref (c 28)) (C := RX9) (T := TX9) (N := 38) hx hb hts hin9 hown hK hP 0 rfl rfl 28 (by decide) (hts (.fieldLink RX9 40 "BlockLogModel" "state" "[J") (by decide +kernel)) (fun _ h9 => h9) rfl dX9_out_148 ?_
                        refine lv_iload_n hx hb dX9_out_151 rfl (lv_at hl 0 rfl) ?_
                        refine va_lald (f := g28_23) hx hb hK hP 10 9 rfl rfl (iv_in (i := l2_141) (by omega) (by omega)) dX9_out_152 ?_
                        refine lv_topl (fun w_49 ew_49 => ?_)
                        have hX_state := ew_49
                        clear ew_49
                        refine lv_lconst (v := 0) hx hb dX9_out_153 (by decide) ?_
                        refine W.lcmp hx hb dX9_out_154 ?_
                        refine lv_topi (fun v_50 ev_50 => ?_)
                        refine lv_if_eq (tgt := 227) hx hb dX9_out_155 (by decide) (fun c_51 => ?_) (fun c_51 => ?_)
                        · skip
                          have ic_51 := iv_eq c_51
                          obtain ⟨x_52, ex_52⟩ : ∃ z : Int32, z = l2_141 + (1) := ⟨_, rfl⟩
                          refine lv_iinc (v := x_52) (lv' := [(2, .int x_52), (0, .ref o), (1, .int p0)]) hx hb dX9_out_227 hl (k := 0) rfl (by rw [ex_52]; rfl) (by decide) rfl (fun ls hl => ?_)
                          have rg1 := iv_rng l2_141
                          have hx_52 : x_52.toInt = l2_141.toInt + (1) := by rw [ex_52]; exact (iv_add (by omega) (by omega)).trans (by omega)
                          clear ex_52
                          refine lv_goto (tgt := 141) hx hb dX9_out_230 (by decide) ?_
                          exact ih141 x_52 s9_141 a8_141 _ _ _ (by omega) (by omega) (by omega) (by omega) (by omega) (by assumption) (by omega) hP hS (lv_sub hl [0, 1, 2] rfl)
                        · skip
                          have ic_51 := iv_ne c_51
                          have hnz : g28_23 l2_141.toNatClampNeg ≠ 0 := pnz_w hX_state (by assumption) (by assumption)
                          refine lv_aload_n hx hb dX9_out_158 rfl (lv_at hl 1 rfl) ?_
                          refine lv_aload_n hx hb dX9_out_159 rfl (lv_at hl 1 rfl) ?_
                          refine lv_aload_n hx hb dX9_out_160 rfl (lv_at hl 1 rfl) ?_
                          refine va_get (D := (dC, dI)) (ci := 11) (v := .ref (c 28)) (C := RX9) (T := TX9) (N := 38) hx hb hts hin9 hown hK hP 0 rfl rfl 28 (by decide) (hts (.fieldLink RX9 40 "BlockLogModel" "state" "[J") (by decide +kernel)) (fun _ h9 => h9) rfl dX9_out_161 ?_
                          refine lv_iload_n hx hb dX9_out_164 rfl (lv_at hl 0 rfl) ?_
                          refine va_lald (f := g28_23) hx hb hK hP 10 9 rfl rfl (iv_in (i := l2_141) (by omega) (by omega)) dX9_out_165 ?_
                          refine lv_topl (fun w_53 ew_53 => ?_)
                          have hX_state := ew_53
                          clear ew_53
                          refine vp_callSi (va_Run.run (va_runV (As := [.long w_53]) (rest := [.ref o]) ⟨hx, hb, hml, hown, hts⟩ (v_X9_pageOf l dC dI o c kc (rU (rU (rU (rU (rU (rU (rU (rU st 9 s9_141) 13 jt_30) 16 x16_4) 17 x17_4) 21 x21_4) 22 x22_4) 24 x24_4) 26 x26_4) (rU (rU lg 23 y23_4) 27 y27_4) (rU (rU (rU (rU ai 8 a8_141) 19 f19_4) 20 f20_4) 25 f25_4) (rU (rU al 18 g18_4) 28 g28_23) w_53 (show 1 ≤ (st 1).toInt by omega) (show (st 1).toInt ≤ 65536 by omega)) (cwV 1 hts gX9_out_X9_pageOf rfl rfl rfl (by decide +kernel) ⟨Nat.le_of_ble_eq_true rfl, Nat.le_of_ble_eq_true rfl⟩) ⟨fun a U g mk q => by obtain ⟨q0, qP, qK⟩ := q; exact ⟨q0, qP, va_K.moved (u := U) (U := U.calling g mk a) (Vm.Alike.refl U.vm) qK⟩, va_recv hK hP (ci := 11) (q := (RX9, TX9, 38)) rfl (q0 := 0) rfl, fun U hU hW => ⟨rfl, by rw [hU]; exact hP, va_K.moved hW.alike hK⟩⟩ rfl rfl hl.1 rfl (lv_room (Nat.le_of_ble_eq_true rfl)) dX9_out_166 ⟨Nat.le_of_ble_eq_true rfl, Nat.le_of_ble_eq_true rfl⟩)) (fun r_54 er_54 => ?_)
                          obtain ⟨k_55, k_56, hp⟩ := er_54
                          have k_56 : r_54.toInt < (st 1).toInt := k_56
                          have hp : (r_54.toInt = -1 → noP (ai 0) (st 1) w_53) ∧ (r_54.toInt ≠ -1 → ¬ noP (ai 0) (st 1) w_53 ∧ 1 ≤ (rS (ai 0) r_54).toInt ∧ (rS (ai 0) r_54).toInt ≤ 16) := hp
                          have k_57 : r_54.toInt ≠ -1 := fun h => pp_u hpp (by omega) (by omega) (by omega) hnz hX_state (hp.1 h)
                          have hS1 := (hp.2 (by omega)).2
                          refine vp_callSi (va_Run.run (va_runV (As := [.int r_54]) (rest := []) ⟨hx, hb, hml, hown, hts⟩ (v_X9_pagePlace l dC dI o c kc (rU (rU (rU (rU (rU (rU (rU (rU st 9 s9_141) 13 jt_30) 16 x16_4) 17 x17_4) 21 x21_4) 22 x22_4) 24 x24_4) 26 x26_4) (rU (rU lg 23 y23_4) 27 y27_4) (rU (rU (rU (rU ai 8 a8_141) 19 f19_4) 20 f20_4) 25 f25_4) (rU (rU al 18 g18_4) 28 g28_23) r_54 (by omega) (by omega)) (cwV 1 hts gX9_out_X9_pagePlace rfl rfl rfl (by decide +kernel) ⟨Nat.le_of_ble_eq_true rfl, Nat.le_of_ble_eq_true rfl⟩) ⟨fun a U g mk q => by obtain ⟨q0, qP, qK⟩ := q; exact ⟨q0, qP, va_K.moved (u := U) (U := U.calling g mk a) (Vm.Alike.refl U.vm) qK⟩, va_recv hK hP (ci := 11) (q := (RX9, TX9, 38)) rfl (q0 := 0) rfl, fun U hU hW => ⟨rfl, by rw [hU]; exact hP, va_K.moved hW.alike hK⟩⟩ rfl rfl hl.1 rfl (lv_room (Nat.le_of_ble_eq_true rfl)) dX9_out_169 ⟨Nat.le_of_ble_eq_true rfl, Nat.le_of_ble_eq_true rfl⟩)) (fun r_58 er_58 => ?_)
                          have k_59 := er_58
                          have k_60 : (1 ≤ (md_get (ai 0) r_58).toInt ∧ (md_get (ai 0) r_58).toInt ≤ 16) := sD hS1 (by omega) (by omega) (by omega)
                          refine lv_istore_n (lv' := [(3, .int r_58), (2, .int l2_141), (0, .ref o), (1, .int p0)]) hx hb dX9_out_172 rfl hl (by decide) rfl (fun ls hl => ?_)
                          refine lv_aload_n hx hb dX9_out_173 rfl (lv_at hl 2 rfl) ?_
                          refine lv_iload_n hx hb dX9_out_174 rfl (lv_at hl 0 rfl) ?_
                          refine vp_callSi (va_Run.run (va_runV (As := [.int r_58]) (rest := []) ⟨hx, hb, hml, hown, hts⟩ (v_X9_byteIn l dC dI o c kc (rU (rU (rU (rU (rU (rU (rU (rU st 9 s9_141) 13 jt_30) 16 x16_4) 17 x17_4) 21 x21_4) 22 x22_4) 24 x24_4) 26 x26_4) (rU (rU lg 23 y23_4) 27 y27_4) (rU (rU (rU (rU ai 8 a8_141) 19 f19_4) 20 f20_4) 25 f25_4) (rU (rU al 18 g18_4) 28 g28_23) r_58 (by omega) (by omega)) (cwV 1 hts gX9_out_X9_byteIn rfl rfl rfl (by decide +kernel) ⟨Nat.le_of_ble_eq_true rfl, Nat.le_of_ble_eq_true rfl⟩) ⟨fun a U g mk q => by obtain ⟨q0, qP, qK⟩ := q; exact ⟨q0, qP, va_K.moved (u := U) (U := U.calling g mk a) (Vm.Alike.refl U.vm) qK⟩, va_recv hK hP (ci := 11) (q := (RX9, TX9, 38)) rfl (q0 := 0) rfl, fun U hU hW => ⟨rfl, by rw [hU]; exact hP, va_K.moved hW.alike hK⟩⟩ rfl rfl hl.1 rfl (lv_room (Nat.le_of_ble_eq_true rfl)) dX9_out_175 ⟨Nat.le_of_ble_eq_true rfl, Nat.le_of_ble_eq_true rfl⟩)) (fun r_61 er_61 => ?_)
                          obtain ⟨k_62, k_63, k_64⟩ := er_61
                          have k_62 : r_61.toInt = (md_get (ai 0) r_58).toInt := k_62
                          refine lv_istore (lv' := [(4, .int r_61), (3, .int r_58), (2, .int l2_141), (0, .ref o), (1, .int p0)]) hx hb dX9_out_178 hl (by decide) rfl (fun ls hl => ?_)
                          refine lv_aload_n hx hb dX9_out_180 rfl (lv_at hl 3 rfl) ?_
                          refine lv_iload_n hx hb dX9_out_181 rfl (lv_at hl 2 rfl) ?_
                          refine lv_i2l hx hb dX9_out_182 rfl ?_
                          refine lv_topl (fun w_65 ew_65 => ?_)
                          refine lv_iconst (v := 1) hx hb dX9_out_183 (by decide) ?_
                          have hFc := vfree (rw_D hD : va_D A (rw_W o c kc (rU (rU (rU (rU (rU (rU (rU (rU st 9 s9_141) 13 jt_30) 16 x16_4) 17 x17_4) 21 x21_4) 22 x22_4) 24 x24_4) 26 x26_4) (rU (rU lg 23 y23_4) 27 y27_4) (rU (rU (rU (rU ai 8 a8_141) 19 f19_4) 20 f20_4) 25 f25_4) (rU (rU al 18 g18_4) 28 g28_23))) hS hA
                          refine va_callv (va_runV (As := [.long w_65, .int (1 : Int32)]) (rest := []) ⟨hx, hb, hml, hown, hts⟩ (v_X9_toTape l dC dI o c kc (rU (rU (rU (rU (rU (rU (rU (rU st 9 s9_141) 13 jt_30) 16 x16_4) 17 x17_4) 21 x21_4) 22 x22_4) 24 x24_4) 26 x26_4) (rU (rU lg 23 y23_4) 27 y27_4) (rU (rU (rU (rU ai 8 a8_141) 19 f19_4) 20 f20_4) 25 f25_4) (rU (rU al 18 g18_4) 28 g28_23) w_65 (1 : Int32) _ (show 0 ≤ s9_141.toInt by omega) (show s9_141.toInt ≤ 400 by omega) (by omega) (by omega) (show s9_141.toInt + 1 ≤ 400 by omega) (show aR a8_141 400 (0) 255 from hR8)) (cwV 2 hts gX9_out_X9_toTape rfl rfl rfl (by decide +kernel) ⟨Nat.le_of_ble_eq_true rfl, Nat.le_of_ble_eq_true rfl⟩) ⟨fun a U g mk q => by obtain ⟨q0, q1, qP, qK, qD⟩ := q; exact ⟨q0, q1, qP, va_K.moved (u := U) (U := U.calling g mk a) (Vm.Alike.refl U.vm) qK, qD⟩, va_recv hK hP (ci := 11) (q := (RX9, TX9, 38)) rfl (q0 := 0) rfl, fun U hU hW => ⟨rfl, by rw [hU], by rw [hU]; exact hP, va_K.moved hW.alike hK, rw_D (hD.weaken (fun _ _ _ _ => trivial))⟩⟩ rfl rfl hl.1 rfl (lv_room (Nat.le_of_ble_eq_true rfl)) dX9_out_184 ⟨Nat.le_of_ble_eq_true rfl, Nat.le_of_ble_eq_true rfl⟩) hS (fun q _ h => hFc q h) hFc (fun ur_66 t H1 locs ht hvm er_66 hB hz1 hk1 hS => ?_)
                          obtain ⟨x9_66, f8_66, k_67, k_68, k_69, hR8, hP1⟩ := hB
                          rw [ht] at hP1
                          clear hFc hz1 hk1 hvm hP
                          subst ht
                          have hP := hP1
                          clear hP1
                          generalize t.heap = H at hP hS ⊢
                          have hP : va_P (dC, dI) vwCl (rw_W o c kc (rU (rU (rU (rU (rU (rU (rU (rU st 9 x9_66) 13 jt_30) 16 x16_4) 17 x17_4) 21 x21_4) 22 x22_4) 24 x24_4) 26 x26_4) (rU (rU lg 23 y23_4) 27 y27_4) (rU (rU (rU (rU ai 8 f8_66) 19 f19_4) 20 f20_4) 25 f25_4) (rU (rU al 18 g18_4) 28 g28_23)) H := hP
                          have k_67 : x9_66.toInt = s9_141.toInt + 1 := k_67
                          have k_68 : 0 ≤ x9_66.toInt := k_68
                          have k_69 : x9_66.toInt ≤ 400 := k_69
                          have hR8 : aR f8_66 400 (0) 255 := hR8
                          refine lv_aload_n hx hb dX9_out_187 rfl (lv_at hl 3 rfl) ?_
                          refine lv_iload hx hb dX9_out_188 (lv_at hl 0 rfl) ?_
                          refine lv_i2l hx hb dX9_out_190 rfl ?_
                          refine lv_topl (fun w_70 ew_70 => ?_)
                          refine lv_iconst (v := 1) hx hb dX9_out_191 (by decide) ?_
                          have hFc := vfree (rw_D hD : va_D A (rw_W o c kc (rU (rU (rU (rU (rU (rU (rU (rU st 9 x9_66) 13 jt_30) 16 x16_4) 17 x17_4) 21 x21_4) 22 x22_4) 24 x24_4) 26 x26_4) (rU (rU lg 23 y23_4) 27 y27_4) (rU (rU (rU (rU ai 8 f8_66) 19 f19_4) 20 f20_4) 25 f25_4) (rU (rU al 18 g18_4) 28 g28_23))) hS hA
                          refine va_callv (va_runV (As := [.long w_70, .int (1 : Int32)]) (rest := []) ⟨hx, hb, hml, hown, hts⟩ (v_X9_toTape l dC dI o c kc (rU (rU (rU (rU (rU (rU (rU (rU st 9 x9_66) 13 jt_30) 16 x16_4) 17 x17_4) 21 x21_4) 22 x22_4) 24 x24_4) 26 x26_4) (rU (rU lg 23 y23_4) 27 y27_4) (rU (rU (rU (rU ai 8 f8_66) 19 f19_4) 20 f20_4) 25 f25_4) (rU (rU al 18 g18_4) 28 g28_23) w_70 (1 : Int32) _ (show 0 ≤ x9_66.toInt by omega) (show x9_66.toInt ≤ 400 by omega) (by omega) (by omega) (show x9_66.toInt + 1 ≤ 400 by omega) (show aR f8_66 400 (0) 255 from hR8)) (cwV 2 hts gX9_out_X9_toTape rfl rfl rfl (by decide +kernel) ⟨Nat.le_of_ble_eq_true rfl, Nat.le_of_ble_eq_true rfl⟩) ⟨fun a U g mk q => by obtain ⟨q0, q1, qP, qK, qD⟩ := q; exact ⟨q0, q1, qP, va_K.moved (u := U) (U := U.calling g mk a) (Vm.Alike.refl U.vm) qK, qD⟩, va_recv hK hP (ci := 11) (q := (RX9, TX9, 38)) rfl (q0 := 0) rfl, fun U hU hW => ⟨rfl, by rw [hU], by rw [hU]; exact hP, va_K.moved hW.alike hK, rw_D (hD.weaken (fun _ _ _ _ => trivial))⟩⟩ rfl rfl hl.1 rfl (lv_room (Nat.le_of_ble_eq_true rfl)) dX9_out_192 ⟨Nat.le_of_ble_eq_true rfl, Nat.le_of_ble_eq_true rfl⟩) hS (fun q _ h => hFc q h) hFc (fun ur_71 t H1 locs ht hvm er_71 hB hz1 hk1 hS => ?_)
                          obtain ⟨x9_71, f8_71, k_72, k_73, k_74, hR8, hP1⟩ := hB
                          rw [ht] at hP1
                          clear hFc hz1 hk1 hvm hP
                          subst ht
                          have hP := hP1
                          clear hP1
                          generalize t.heap = H at hP hS ⊢
                          have hP : va_P (dC, dI) vwCl (rw_W o c kc (rU (rU (rU (rU (rU (rU (rU (rU st 9 x9_71) 13 jt_30) 16 x16_4) 17 x17_4) 21 x21_4) 22 x22_4) 24 x24_4) 26 x26_4) (rU (rU lg 23 y23_4) 27 y27_4) (rU (rU (rU (rU ai 8 f8_71) 19 f19_4) 20 f20_4) 25 f25_4) (rU (rU al 18 g18_4) 28 g28_23)) H := hP
                          have k_72 : x9_71.toInt = x9_66.toInt + 1 := k_72
                          have k_73 : 0 ≤ x9_71.toInt := k_73
                          have k_74 : x9_71.toInt ≤ 400 := k_74
                          have hR8 : aR f8_71 400 (0) 255 := hR8
                          refine lv_iconst (v := 0) hx hb dX9_out_195 (by decide) ?_
                          refine lv_istore (lv' := [(5, .int (0 : Int32)), (4, .int r_61), (3, .int r_58), (2, .int l2_141), (0, .ref o), (1, .int p0)]) hx hb dX9_out_196 hl (by decide) rfl (fun ls hl => ?_)
                          have loop198 : ∀ (n : Nat) (l5_198 : Int32) (s9_198 : Int32) (a8_198 : Nat → Int32) (H : Heap) (locs : List Loc) (ls : Array Slot), (0 ≤ l5_198.toInt) → (l5_198.toInt ≤ r_61.toInt) → (s9_198.toInt ≤ 15 + 18 * l2_141.toInt + l5_198.toInt) → (0 ≤ s9_198.toInt) → (s9_198.toInt ≤ 400) → (aR a8_198 400 (0) 255) → (r_61.toInt - l5_198.toInt : Int).toNat < n → va_P (dC, dI) vwCl (rw_W o c kc (rU (rU (rU (rU (rU (rU (rU (rU st 9 s9_198) 13 jt_30) 16 x16_4) 17 x17_4) 21 x21_4) 22 x22_4) 24 x24_4) 26 x26_4) (rU (rU lg 23 y23_4) 27 y27_4) (rU (rU (rU (rU ai 8 a8_198) 19 f19_4) 20 f20_4) 25 f25_4) (rU (rU al 18 g18_4) 28 g28_23)) H → va_S A s.heap H locs → lv_has ls 6 [(5, .int l5_198), (4, .int r_61), (3, .int r_58), (2, .int l2_141), (0, .ref o), (1, .int p0)] → W p l e (headSpec wsX9_out ({ frames := 7, cells := 0, slots := 0, locals := 159 })).room s m ([.ref o, .int p0] : List Value).toArray below meth cM H locs 0 0 (MQ below (va_Qi (fun r (u : Int32) => r = u) (fun u t => ∃ (x9 : Int32) (x13 : Int32) (x16 : Int32) (x17 : Int32) (x21 : Int32) (x22 : Int32) (x24 : Int32) (x26 : Int32) (y23 : Int64) (y27 : Int64) (f8 : Nat → Int32) (f19 : Nat → Int32) (f20 : Nat → Int32) (f25 : Nat → Int32) (g18 : Nat → Int64) (g28 : Nat → Int64), (0 ≤ x9.toInt) ∧ (x9.toInt ≤ 400) ∧ (0 ≤ x16.toInt) ∧ (x16.toInt ≤ 128) ∧ (0 ≤ x17.toInt) ∧ (x17.toInt ≤ 1) ∧ (-1 ≤ x21.toInt) ∧ (x21.toInt ≤ 127) ∧ (0 ≤ x22.toInt) ∧ (x22.toInt ≤ 1000000) ∧ (0 ≤ x24.toInt) ∧ (x24.toInt ≤ 1) ∧ (0 ≤ x26.toInt) ∧ (x26.toInt ≤ 2000000) ∧ (aR f8 400 (0) 255) ∧ (aR f25 130 (0) 127) ∧ va_P (dC, dI) vwCl (rw_W o c kc (rU (rU (rU (rU (rU (rU (rU (rU st 9 x9) 13 x13) 16 x16) 17 x17) 21 x21) 22 x22) 24 x24) 26 x26) (rU (rU lg 23 y23) 27 y27) (rU (rU (rU (rU ai 8 f8) 19 f19) 20 f20) 25 f25) (rU (rU al 18 g18) 28 g28)) t.heap) A) ([.ref o, .int p0] : List Value).toArray s 0 0 A) (F0 m 198 ls []) := by
                            intro n
                            induction n with
                            | zero => intro l5_198 s9_198 a8_198 H locs ls if0_198 if1_198 if2_198 if3_198 if4_198 hR8 hm; exact absurd hm (Nat.not_lt_zero _)
                            | succ n ih198 =>
                              intro l5_198 s9_198 a8_198 H locs ls if0_198 if1_198 if2_198 if3_198 if4_198 hR8 hm198 hP hS hl
                              refine lv_iload hx hb dX9_out_198 (lv_at hl 0 rfl) ?_
                              refine lv_iload hx hb dX9_out_200 (lv_at hl 1 rfl) ?_
                              refine lv_icmp_ge (tgt := 227) hx hb dX9_out_202 (by decide) (fun c_75 => ?_) (fun c_75 => ?_)
                              · skip
                                have ic_75 := iv_le c_75
                                obtain ⟨x_76, ex_76⟩ : ∃ z : Int32, z = l2_141 + (1) := ⟨_, rfl⟩
                                refine lv_iinc (v := x_76) (lv' := [(2, .int x_76), (5, .int l5_198), (4, .int r_61), (3, .int r_58), (0, .ref o), (1, .int p0)]) hx hb dX9_out_227 hl (k := 3) rfl (by rw [ex_76]; rfl) (by decide) rfl (fun ls hl => ?_)
                                have rg2 := iv_rng l2_141
                                have hx_76 : x_76.toInt = l2_141.toInt + (1) := by rw [ex_76]; exact (iv_add (by omega) (by omega)).trans (by omega)
                                clear ex_76
                                refine lv_goto (tgt := 141) hx hb dX9_out_230 (by decide) ?_
                                exact ih141 x_76 s9_198 a8_198 _ _ _ (by omega) (by omega) (by omega) (by omega) (by omega) (by assumption) (by omega) hP hS (lv_sub hl [0, 4, 5] rfl)
                              · skip
                                have ic_75 := iv_nle c_75
                                refine lv_aload_n hx hb dX9_out_205 rfl (lv_at hl 4 rfl) ?_
                                refine lv_aload_n hx hb dX9_out_206 rfl (lv_at hl 4 rfl) ?_
                                refine lv_iload_n hx hb dX9_out_207 rfl (lv_at hl 2 rfl) ?_
                                refine lv_iconst (v := 1) hx hb dX9_out_208 (by decide) ?_
                                refine lv_iadd hx hb dX9_out_209 ?_
                                refine lv_topi (fun v_77 ev_77 => ?_)
                                have rg3 := iv_rng r_58
                                have hv_77 : v_77.toInt = r_58.toInt + 1 := by rw [ev_77]; exact (iv_add (by omega) (by omega)).trans (by omega)
                                refine lv_iload hx hb dX9_out_210 (lv_at hl 0 rfl) ?_
                                refine lv_iadd hx hb dX9_out_212 ?_
                                refine lv_topi (fun v_78 ev_78 => ?_)
                                have rg4 := iv_rng v_77
                                have rg5 := iv_rng l5_198
                                have hv_78 : v_78.toInt = v_77.toInt + l5_198.toInt := by rw [ev_78]; exact (iv_add (by omega) (by omega)).trans (by omega)
                                refine vp_callSi (va_Run.run (va_runV (As := [.int v_78]) (rest := [.ref o]) ⟨hx, hb, hml, hown, hts⟩ (v_X9_byteIn l dC dI o c kc (rU (rU (rU (rU (rU (rU (rU (rU st 9 s9_198) 13 jt_30) 16 x16_4) 17 x17_4) 21 x21_4) 22 x22_4) 24 x24_4) 26 x26_4) (rU (rU lg 23 y23_4) 27 y27_4) (rU (rU (rU (rU ai 8 a8_198) 19 f19_4) 20 f20_4) 25 f25_4) (rU (rU al 18 g18_4) 28 g28_23) v_78 (by omega) (by omega)) (cwV 1 hts gX9_out_X9_byteIn rfl rfl rfl (by decide +kernel) ⟨Nat.le_of_ble_eq_true rfl, Nat.le_of_ble_eq_true rfl⟩) ⟨fun a U g mk q => by obtain ⟨q0, qP, qK⟩ := q; exact ⟨q0, qP, va_K.moved (u := U) (U := U.calling g mk a) (Vm.Alike.refl U.vm) qK⟩, va_recv hK hP (ci := 11) (q := (RX9, TX9, 38)) rfl (q0 := 0) rfl, fun U hU hW => ⟨rfl, by rw [hU]; exact hP, va_K.moved hW.alike hK⟩⟩ rfl rfl hl.1 rfl (lv_room (Nat.le_of_ble_eq_true rfl)) dX9_out_213 ⟨Nat.le_of_ble_eq_true rfl, Nat.le_of_ble_eq_true rfl⟩)) (fun r_79 er_79 => ?_)
                                obtain ⟨k_80, k_81, k_82⟩ := er_79
                                have k_80 : r_79.toInt = (md_get (ai 0) v_78).toInt := k_80
                                refine lv_i2l hx hb dX9_out_216 rfl ?_
                                refine lv_topl (fun w_83 ew_83 => ?_)
                                refine lv_iconst (v := 1) hx hb dX9_out_217 (by decide) ?_
                                have hFc := vfree (rw_D hD : va_D A (rw_W o c kc (rU (rU (rU (rU (rU (rU (rU (rU st 9 s9_198) 13 jt_30) 16 x16_4) 17 x17_4) 21 x21_4) 22 x22_4) 24 x24_4) 26 x26_4) (rU (rU lg 23 y23_4) 27 y27_4) (rU (rU (rU (rU ai 8 a8_198) 19 f19_4) 20 f20_4) 25 f25_4) (rU (rU al 18 g18_4) 28 g28_23))) hS hA
                                refine va_callv (va_runV (As := [.long w_83, .int (1 : Int32)]) (rest := []) ⟨hx, hb, hml, hown, hts⟩ (v_X9_toTape l dC dI o c kc (rU (rU (rU (rU (rU (rU (rU (rU st 9 s9_198) 13 jt_30) 16 x16_4) 17 x17_4) 21 x21_4) 22 x22_4) 24 x24_4) 26 x26_4) (rU (rU lg 23 y23_4) 27 y27_4) (rU (rU (rU (rU ai 8 a8_198) 19 f19_4) 20 f20_4) 25 f25_4) (rU (rU al 18 g18_4) 28 g28_23) w_83 (1 : Int32) _ (show 0 ≤ s9_198.toInt by omega) (show s9_198.toInt ≤ 400 by omega) (by omega) (by omega) (show s9_198.toInt + 1 ≤ 400 by omega) (show aR a8_198 400 (0) 255 from hR8)) (cwV 2 hts gX9_out_X9_toTape rfl rfl rfl (by decide +kernel) ⟨Nat.le_of_ble_eq_true rfl, Nat.le_of_ble_eq_true rfl⟩) ⟨fun a U g mk q => by obtain ⟨q0, q1, qP, qK, qD⟩ := q; exact ⟨q0, q1, qP, va_K.moved (u := U) (U := U.calling g mk a) (Vm.Alike.refl U.vm) qK, qD⟩, va_recv hK hP (ci := 11) (q := (RX9, TX9, 38)) rfl (q0 := 0) rfl, fun U hU hW => ⟨rfl, by rw [hU], by rw [hU]; exact hP, va_K.moved hW.alike hK, rw_D (hD.weaken (fun _ _ _ _ => trivial))⟩⟩ rfl rfl hl.1 rfl (lv_room (Nat.le_of_ble_eq_true rfl)) dX9_out_218 ⟨Nat.le_of_ble_eq_true rfl, Nat.le_of_ble_eq_true rfl⟩) hS (fun q _ h => hFc q h) hFc (fun ur_84 t H1 locs ht hvm er_84 hB hz1 hk1 hS => ?_)
                                obtain ⟨x9_84, f8_84, k_85, k_86, k_87, hR8, hP1⟩ := hB
                                rw [ht] at hP1
                                clear hFc hz1 hk1 hvm hP
                                subst ht
                                have hP := hP1
                                clear hP1
                                generalize t.heap = H at hP hS ⊢
                                have hP : va_P (dC, dI) vwCl (rw_W o c kc (rU (rU (rU (rU (rU (rU (rU (rU st 9 x9_84) 13 jt_30) 16 x16_4) 17 x17_4) 21 x21_4) 22 x22_4) 24 x24_4) 26 x26_4) (rU (rU lg 23 y23_4) 27 y27_4) (rU (rU (rU (rU ai 8 f8_84) 19 f19_4) 20 f20_4) 25 f25_4) (rU (rU al 18 g18_4) 28 g28_23)) H := hP
                                have k_85 : x9_84.toInt = s9_198.toInt + 1 := k_85
                                have k_86 : 0 ≤ x9_84.toInt := k_86
                                have k_87 : x9_84.toInt ≤ 400 := k_87
                                have hR8 : aR f8_84 400 (0) 255 := hR8
                                obtain ⟨x_88, ex_88⟩ : ∃ z : Int32, z = l5_198 + (1) := ⟨_, rfl⟩
                                refine lv_iinc (v := x_88) (lv' := [(5, .int x_88), (4, .int r_61), (3, .int r_58), (2, .int l2_141), (0, .ref o), (1, .int p0)]) hx hb dX9_out_221 hl (k := 0) rfl (by rw [ex_88]; rfl) (by decide) rfl (fun ls hl => ?_)
                                have hx_88 : x_88.toInt = l5_198.toInt + (1) := by rw [ex_88]; exact (iv_add (by omega) (by omega)).trans (by omega)
                                clear ex_88
                                refine lv_goto (tgt := 198) hx hb dX9_out_224 (by decide) ?_
                                exact ih198 x_88 x9_84 f8_84 _ _ _ (by omega) (by omega) (by omega) (by omega) (by omega) (by assumption) (by omega) hP hS (lv_sub hl [0, 1, 2, 3, 4, 5] rfl)
                          exact loop198 ((r_61.toInt - 0 : Int).toNat + 1) (0 : Int32) x9_71 f8_71 _ _ _ (by omega) (by omega) (by omega) (by omega) (by omega) (by assumption) (by omega) hP hS (lv_sub hl [0, 1, 2, 3, 4, 5] rfl)
                  exact loop141 ((16 - 0 : Int).toNat + 1) (0 : Int32) x9_39 f8_39 _ _ _ (by omega) (by omega) (by omega) (by omega) (by omega) (by assumption) (by omega) hP hS (lv_sub hl [0, 1, 2] rfl)
                · skip
                  have ic_24 := iv_nle c_24
                  refine lv_aload_n hx hb dX9_out_72 rfl (lv_at hl 1 rfl) ?_
                  refine va_get (D := (dC, dI)) (ci := 11) (v := .ref (c 28)) (C := RX9) (T := TX9) (N := 38) hx hb hts hin9 hown hK hP 0 rfl rfl 28 (by decide) (hts (.fieldLink RX9 40 "BlockLogModel" "state" "[J") (by decide +kernel)) (fun _ h9 => h9) rfl dX9_out_73 ?_
                  refine lv_iload_n hx hb dX9_out_76 rfl (lv_at hl 0 rfl) ?_
                  refine va_lald (f := g28_23) hx hb hK hP 10 9 rfl rfl (iv_in (i := l2_66) (by omega) (by omega)) dX9_out_77 ?_
                  refine lv_topl (fun w_89 ew_89 => ?_)
                  have hX_state := ew_89
                  clear ew_89
                  refine lv_lconst (v := 0) hx hb dX9_out_78 (by decide) ?_
                  refine W.lcmp hx hb dX9_out_79 ?_
                  refine lv_topi (fun v_90 ev_90 => ?_)
                  refine lv_if_eq (tgt := 100) hx hb dX9_out_80 (by decide) (fun c_91 => ?_) (fun c_91 => ?_)
                  · skip
                    have ic_91 := iv_eq c_91
                    obtain ⟨x_92, ex_92⟩ : ∃ z : Int32, z = l2_66 + (1) := ⟨_, rfl⟩
                    refine lv_iinc (v := x_92) (lv' := [(2, .int x_92), (0, .ref o), (1, .int p0)]) hx hb dX9_out_100 hl (k := 0) rfl (by rw [ex_92]; rfl) (by decide) rfl (fun ls hl => ?_)
                    have rg6 := iv_rng l2_66
                    have hx_92 : x_92.toInt = l2_66.toInt + (1) := by rw [ex_92]; exact (iv_add (by omega) (by omega)).trans (by omega)
                    clear ex_92
                    refine lv_goto (tgt := 66) hx hb dX9_out_103 (by decide) ?_
                    exact ih66 x_92 _ _ _ (by omega) (by omega) (pp_s hpp (by first | exact fun h => absurd (pz_w hX_state (by assumption) (by assumption)) h | exact fun _ => pn_w hX_state (hp.2 (by omega)).1) (by omega) (by omega)) (by omega) hP hS (lv_sub hl [0, 1, 2] rfl)
                  · skip
                    have ic_91 := iv_ne c_91
                    refine lv_aload_n hx hb dX9_out_83 rfl (lv_at hl 1 rfl) ?_
                    refine lv_aload_n hx hb dX9_out_84 rfl (lv_at hl 1 rfl) ?_
                    refine va_get (D := (dC, dI)) (ci := 11) (v := .ref (c 28)) (C := RX9) (T := TX9) (N := 38) hx hb hts hin9 hown hK hP 0 rfl rfl 28 (by decide) (hts (.fieldLink RX9 40 "BlockLogModel" "state" "[J") (by decide +kernel)) (fun _ h9 => h9) rfl dX9_out_85 ?_
                    refine lv_iload_n hx hb dX9_out_88 rfl (lv_at hl 0 rfl) ?_
                    refine va_lald (f := g28_23) hx hb hK hP 10 9 rfl rfl (iv_in (i := l2_66) (by omega) (by omega)) dX9_out_89 ?_
                    refine lv_topl (fun w_93 ew_93 => ?_)
                    have hX_state := ew_93
                    clear ew_93
                    refine vp_callSi (va_Run.run (va_runV (As := [.long w_93]) (rest := []) ⟨hx, hb, hml, hown, hts⟩ (v_X9_pageOf l dC dI o c kc (rU (rU (rU (rU (rU (rU (rU st 13 jt_30) 16 x16_4) 17 x17_4) 21 x21_4) 22 x22_4) 24 x24_4) 26 x26_4) (rU (rU lg 23 y23_4) 27 y27_4) (rU (rU (rU ai 19 f19_4) 20 f20_4) 25 f25_4) (rU (rU al 18 g18_4) 28 g28_23) w_93 (show 1 ≤ (st 1).toInt by omega) (show (st 1).toInt ≤ 65536 by omega)) (cwV 1 hts gX9_out_X9_pageOf rfl rfl rfl (by decide +kernel) ⟨Nat.le_of_ble_eq_true rfl, Nat.le_of_ble_eq_true rfl⟩) ⟨fun a U g mk q => by obtain ⟨q0, qP, qK⟩ := q; exact ⟨q0, qP, va_K.moved (u := U) (U := U.calling g mk a) (Vm.Alike.refl U.vm) qK⟩, va_recv hK hP (ci := 11) (q := (RX9, TX9, 38)) rfl (q0 := 0) rfl, fun U hU hW => ⟨rfl, by rw [hU]; exact hP, va_K.moved hW.alike hK⟩⟩ rfl rfl hl.1 rfl (lv_room (Nat.le_of_ble_eq_true rfl)) dX9_out_90 ⟨Nat.le_of_ble_eq_true rfl, Nat.le_of_ble_eq_true rfl⟩)) (fun r_94 er_94 => ?_)
                    obtain ⟨k_95, k_96, hp⟩ := er_94
                    have k_96 : r_94.toInt < (st 1).toInt := k_96
                    have hp : (r_94.toInt = -1 → noP (ai 0) (st 1) w_93) ∧ (r_94.toInt ≠ -1 → ¬ noP (ai 0) (st 1) w_93 ∧ 1 ≤ (rS (ai 0) r_94).toInt ∧ (rS (ai 0) r_94).toInt ≤ 16) := hp
                    refine lv_iconst (v := (-1)) hx hb dX9_out_93 (by decide) ?_
                    refine lv_icmp_ne (tgt := 100) hx hb dX9_out_94 (by decide) (fun c_97 => ?_) (fun c_97 => ?_)
                    · skip
                      have ic_97 := iv_ne c_97
                      obtain ⟨x_98, ex_98⟩ : ∃ z : Int32, z = l2_66 + (1) := ⟨_, rfl⟩
                      refine lv_iinc (v := x_98) (lv' := [(2, .int x_98), (0, .ref o), (1, .int p0)]) hx hb dX9_out_100 hl (k := 0) rfl (by rw [ex_98]; rfl) (by decide) rfl (fun ls hl => ?_)
                      have rg7 := iv_rng l2_66
                      have hx_98 : x_98.toInt = l2_66.toInt + (1) := by rw [ex_98]; exact (iv_add (by omega) (by omega)).trans (by omega)
                      clear ex_98
                      refine lv_goto (tgt := 66) hx hb dX9_out_103 (by decide) ?_
                      exact ih66 x_98 _ _ _ (by omega) (by omega) (pp_s hpp (by first | exact fun h => absurd (pz_w hX_state (by assumption) (by assumption)) h | exact fun _ => pn_w hX_state (hp.2 (by omega)).1) (by omega) (by omega)) (by omega) hP hS (lv_sub hl [0, 1, 2] rfl)
                    · skip
                      have ic_97 := iv_eq c_97
                      refine lv_bipush (v := (-6)) hx hb dX9_out_97 (by decide) ?_
                      exact W.iret hx hb hr (fun t ht hW => ⟨⟨_, _, rfl, rfl, st 9, jt_30, x16_4, x17_4, x21_4, x22_4, x24_4, x26_4, y23_4, y27_4, ai 8, f19_4, f20_4, f25_4, g18_4, g28_23, (by omega), (by omega), (by omega), (by omega), (by omega), (by omega), (by omega), (by omega), (by omega), (by omega), (by omega), (by omega), (by omega), (by omega), hR8, hR25, by rw [ht]; exact hP⟩, hS.F ht⟩) hS.2.2 dX9_out_99
            exact loop66 ((16 - 0 : Int).toNat + 1) (0 : Int32) _ _ _ (by omega) (by omega) (pp_0 (by omega)) (by omega) hP hS (lv_sub hl [0, 1, 2] rfl)
          · skip
            have ic_22 := iv_nle c_22
            refine lv_iconst (v := 0) hx hb dX9_out_57 (by decide) ?_
            exact W.iret hx hb hr (fun t ht hW => ⟨⟨_, _, rfl, rfl, st 9, jt_30, x16_4, x17_4, x21_4, x22_4, x24_4, x26_4, y23_4, y27_4, ai 8, f19_4, f20_4, f25_4, g18_4, al 28, (by omega), (by omega), (by omega), (by omega), (by omega), (by omega), (by omega), (by omega), (by omega), (by omega), (by omega), (by omega), (by omega), (by omega), hR8, hR25, by rw [ht]; exact hP⟩, hS.F ht⟩) hS.2.2 dX9_out_58
        refine lv_iload_n hx hb dX9_out_30 rfl (lv_at hl 1 rfl) ?_
        refine lv_if_eq (tgt := 42) hx hb dX9_out_31 (by decide) (fun c_99 => ?_) (fun c_99 => ?_)
        · skip
          have ic_99 := iv_eq c_99
          refine lv_iconst (v := 2) hx hb dX9_out_42 (by decide) ?_
          refine lv_goto (tgt := 47) hx hb dX9_out_43 (by decide) ?_
          exact join30 (2 : Int32) _ _ _ (by omega) (by omega) (by omega) hP hS (lv_sub hl [0, 1] rfl)
        · skip
          have ic_99 := iv_ne c_99
          refine lv_aload_n hx hb dX9_out_34 rfl (lv_at hl 0 rfl) ?_
          refine lv_iload_n hx hb dX9_out_35 rfl (lv_at hl 1 rfl) ?_
          refine vp_callSi (va_Run.run (va_runV (As := [.int p0]) (rest := [.ref o]) ⟨hx, hb, hml, hown, hts⟩ (v_X9_isKept l dC dI o c kc (rU (rU (rU (rU (rU (rU (rU st 13 (0 : Int32)) 16 x16_4) 17 x17_4) 21 x21_4) 22 x22_4) 24 x24_4) 26 x26_4) (rU (rU lg 23 y23_4) 27 y27_4) (rU (rU (rU ai 19 f19_4) 20 f20_4) 25 f25_4) (rU al 18 g18_4) p0 (show 0 ≤ x17_4.toInt by omega) (show x17_4.toInt ≤ 1 by omega) (show 0 ≤ x22_4.toInt by omega) (show x22_4.toInt ≤ 1000000 by omega) (show 0 ≤ x26_4.toInt by omega) (show x26_4.toInt ≤ 2000000 by omega)) (cwV 1 hts gX9_out_X9_isKept rfl rfl rfl (by decide +kernel) ⟨Nat.le_of_ble_eq_true rfl, Nat.le_of_ble_eq_true rfl⟩) ⟨fun a U g mk q => by obtain ⟨q0, qP, qK⟩ := q; exact ⟨q0, qP, va_K.moved (u := U) (U := U.calling g mk a) (Vm.Alike.refl U.vm) qK⟩, va_recv hK hP (ci := 11) (q := (RX9, TX9, 38)) rfl (q0 := 0) rfl, fun U hU hW => ⟨rfl, by rw [hU]; exact hP, va_K.moved hW.alike hK⟩⟩ rfl rfl hl.1 rfl (lv_room (Nat.le_of_ble_eq_true rfl)) dX9_out_36 ⟨Nat.le_of_ble_eq_true rfl, Nat.le_of_ble_eq_true rfl⟩)) (fun r_100 er_100 => ?_)
          obtain ⟨k_101, k_102, k_103⟩ := er_100
          have k_101 : (r_100.toInt = 1 → (x22_4.toInt ≤ p0.toInt ∧ p0.toInt ≤ x26_4.toInt)) := k_101
          rcases iv_01 (a := r_100) (by omega) (by omega) with b_104 | b_104
          · skip
            have ib_104 := iv_eq b_104
            rw [b_104]
            refine lv_if_ne (tgt := 46) hx hb dX9_out_39 (by decide) (fun c_105 => ?_) (fun c_105 => ?_)
            · skip
              have ic_105 := iv_ne c_105
              exfalso
              omega
            · skip
              have ic_105 := iv_eq c_105
              refine lv_iconst (v := 2) hx hb dX9_out_42 (by decide) ?_
              refine lv_goto (tgt := 47) hx hb dX9_out_43 (by decide) ?_
              exact join30 (2 : Int32) _ _ _ (by omega) (by omega) (by omega) hP hS (lv_sub hl [0, 1] rfl)
          · skip
            have ib_104 := iv_eq b_104
            rw [b_104]
            refine lv_if_ne (tgt := 46) hx hb dX9_out_39 (by decide) (fun c_106 => ?_) (fun c_106 => ?_)
            · skip
              have ic_106 := iv_ne c_106
              refine lv_iconst (v := 0) hx hb dX9_out_46 (by decide) ?_
              exact join30 (0 : Int32) _ _ _ (by omega) (by omega) (by omega) hP hS (lv_sub hl [0, 1] rfl)
            · skip
              have ic_106 := iv_eq c_106
              exfalso
              omega
      · skip
        have ic_3 := iv_nle c_3
        exfalso
        omega
  exact main s.heap [] hP hS

set_option maxHeartbeats 4000000 in
set_option maxRecDepth 100000 in
theorem v_X9_isSnapshot (l : Launch) (dC : Nat → ClassId) (dI : Nat → Nat → Nat) (o : Nat) (c : Nat → Nat) (kc : Nat → ClassId) (st : Nat → Int32) (lg : Nat → Int64) (ai : Nat → Nat → Int32) (al : Nat → Nat → Int64)  (sz : Nat) (hf9a : 0 ≤ (st 9).toInt) (hf9b : (st 9).toInt ≤ 400) (hf37a : 0 ≤ (st 37).toInt) (hf37b : (st 37).toInt ≤ 255) (hR8 : aR (ai 8) 400 (0) 255) (hR35 : aR (ai 35) 16 (0) 255) : Met l yX9_isSnapshot wsX9_isSnapshot ({ frames := 2, cells := 0, slots := 0, locals := 48 }) (va_Pc [.ref o] (fun U => U.heap.size = sz ∧ va_P (dC, dI) vwCl (rw_W o c kc st lg ai al) U.heap ∧ va_K (dC, dI) vwCl (rw_T kc) U ∧ va_D (fun _ => True) (rw_W o c kc st lg ai al))) (va_Qi (fun r (u : Int32) => r = u) (fun u t => ∃ (x37 : Int32) (f33 : Nat → Int32) (f34 : Nat → Int32) (f35 : Nat → Int32), (u.toInt = 1 → x37.toInt ≤ 16) ∧ (u.toInt = 1 → 21 ≤ (st 9).toInt) ∧ (0 ≤ u.toInt) ∧ (u.toInt ≤ 1) ∧ (0 ≤ x37.toInt) ∧ (x37.toInt ≤ 255) ∧ (aR f35 16 (0) 255) ∧ (u.toInt = 1 → inI f34 f35 x37) ∧ va_P (dC, dI) vwCl (rw_W o c kc (rU st 37 x37) lg (rU (rU (rU ai 33 f33) 34 f34) 35 f35) al) t.heap) (va_A (rw_W o c kc st lg ai al) sz)) 0 0 (va_A (rw_W o c kc st lg ai al) sz) := by
  refine Met.ofW (cc := cX9_isSnapshot) (maxL := 5) (ret := (some .boolean)) (by decide) rfl ?_
  intro p e s m args below meth cM s₁ B hml hv
  obtain ⟨rfl, hsz, hP, hK, hD0⟩ := hv
  have hx := B.exec
  have hb := B.bytes
  have hr := B.returns
  have hts := atoms_spec (ws := wsX9_isSnapshot) B.pre
  have hown : s.vm.findClass RX9 = some m.cls := findClass_of_methodNamed B.named
  subst hsz
  have hD := hD0.self (sz := s.heap.size)
  generalize hAe : va_A (rw_W o c kc st lg ai al) s.heap.size = A at hD ⊢
  have hA : ∀ q : Nat, s.heap.size ≤ q → A q := fun q h => by rw [← hAe]; exact Or.inr h
  have hS : va_S A s.heap s.heap [] := va_S.rf
  clear hAe hD0
  have hl := lv_entry ([.ref o]) (n := 5) (Nat.le_of_ble_eq_true rfl)
  rw [lg_entry_eq]
  generalize (lg_sl ([.ref o]) ++ List.replicate (5 - (lg_sl ([.ref o])).length) Slot.unset).toArray = ls at hl ⊢
  have hl : lv_has ls 5 [(0, .ref o)] := hl
  have z_m1 : (-1 : Int32).toInt = -1 := by decide
  have z_0 : (0 : Int32).toInt = 0 := by decide
  have z_1 : (1 : Int32).toInt = 1 := by decide
  have z_2 : (2 : Int32).toInt = 2 := by decide
  have z_4 : (4 : Int32).toInt = 4 := by decide
  have z_8 : (8 : Int32).toInt = 8 := by decide
  have z_12 : (12 : Int32).toInt = 12 := by decide
  have z_13 : (13 : Int32).toInt = 13 := by decide
  have z_15 : (15 : Int32).toInt = 15 := by decide
  have z_16 : (16 : Int32).toInt = 16 := by decide
  have z_21 : (21 : Int32).toInt = 21 := by decide
  have z_1000000 : (1000000 : Int32).toInt = 1000000 := by decide
  have hin9 : ∀ w ∈ u_ws RX9 TX9 38, w ∈ wsX9_isSnapshot := by decide +kernel
  have main : ∀ (H : Heap) (locs : List Loc), va_P (dC, dI) vwCl (rw_W o c kc st lg ai al) H → va_S A s.heap H locs → W p l e (headSpec wsX9_isSnapshot ({ frames := 2, cells := 0, slots := 0, locals := 48 })).room s m ([.ref o] : List Value).toArray below meth cM H locs 0 0 (MQ below (va_Qi (fun r (u : Int32) => r = u) (fun u t => ∃ (x37 : Int32) (f33 : Nat → Int32) (f34 : Nat → Int32) (f35 : Nat → Int32), (u.toInt = 1 → x37.toInt ≤ 16) ∧ (u.toInt = 1 → 21 ≤ (st 9).toInt) ∧ (0 ≤ u.toInt) ∧ (u.toInt ≤ 1) ∧ (0 ≤ x37.toInt) ∧ (x37.toInt ≤ 255) ∧ (aR f35 16 (0) 255) ∧ (u.toInt = 1 → inI f34 f35 x37) ∧ va_P (dC, dI) vwCl (rw_W o c kc (rU st 37 x37) lg (rU (rU (rU ai 33 f33) 34 f34) 35 f35) al) t.heap) A) ([.ref o] : List Value).toArray s 0 0 A) (F0 m 0 ls []) := by
    intro H locs hP hS
    refine lv_aload_n hx hb dX9_isSnapshot_0 rfl (lv_at hl 0 rfl) ?_
    refine va_get (D := (dC, dI)) (ci := 11) (v := .int (st 9)) (C := RX9) (T := TX9) (N := 38) hx hb hts hin9 hown hK hP 0 rfl rfl 9 (by decide) (hts (.fieldLink RX9 271 "BlockLogModel" "tapeSize" "I") (by decide +kernel)) (fun _ h9 => h9) rfl dX9_isSnapshot_1 ?_
    refine lv_bipush (v := 21) hx hb dX9_isSnapshot_4 (by decide) ?_
    refine lv_icmp_ge (tgt := 11) hx hb dX9_isSnapshot_6 (by decide) (fun c_1 => ?_) (fun c_1 => ?_)
    · skip
      have ic_1 := iv_le c_1
      refine lv_aload_n hx hb dX9_isSnapshot_11 rfl (lv_at hl 0 rfl) ?_
      refine lv_iconst (v := 0) hx hb dX9_isSnapshot_12 (by decide) ?_
      refine lv_iconst (v := 4) hx hb dX9_isSnapshot_13 (by decide) ?_
      refine vp_callSl (va_Run.run (va_runV (As := [.int (0 : Int32), .int (4 : Int32)]) (rest := []) ⟨hx, hb, hml, hown, hts⟩ (v_X9_fromTape l dC dI o c kc st lg ai al (0 : Int32) (4 : Int32) (by omega) (by omega) (by omega) (show aR (ai 8) 400 (0) 255 from hR8)) (cwV 2 hts gX9_isSnapshot_X9_fromTape rfl rfl rfl (by decide +kernel) ⟨Nat.le_of_ble_eq_true rfl, Nat.le_of_ble_eq_true rfl⟩) ⟨fun a U g mk q => by obtain ⟨q0, qP, qK⟩ := q; exact ⟨q0, qP, va_K.moved (u := U) (U := U.calling g mk a) (Vm.Alike.refl U.vm) qK⟩, va_recv hK hP (ci := 11) (q := (RX9, TX9, 38)) rfl (q0 := 0) rfl, fun U hU hW => ⟨rfl, by rw [hU]; exact hP, va_K.moved hW.alike hK⟩⟩ rfl rfl hl.1 rfl (lv_room (Nat.le_of_ble_eq_true rfl)) dX9_isSnapshot_14 ⟨Nat.le_of_ble_eq_true rfl, Nat.le_of_ble_eq_true rfl⟩)) (fun r_2 er_2 => ?_)
      refine lv_l2i hx hb dX9_isSnapshot_17 rfl ?_
      refine lv_topi (fun v_3 ev_3 => ?_)
      clear ev_3
      refine lv_istore_n (lv' := [(1, .int v_3), (0, .ref o)]) hx hb dX9_isSnapshot_18 rfl hl (by decide) rfl (fun ls hl => ?_)
      refine lv_aload_n hx hb dX9_isSnapshot_19 rfl (lv_at hl 1 rfl) ?_
      refine lv_aload_n hx hb dX9_isSnapshot_20 rfl (lv_at hl 1 rfl) ?_
      refine va_get (D := (dC, dI)) (ci := 11) (v := .ref (c 8)) (C := RX9) (T := TX9) (N := 38) hx hb hts hin9 hown hK hP 0 rfl rfl 8 (by decide) (hts (.fieldLink RX9 14 "BlockLogModel" "tape" "[I") (by decide +kernel)) (fun _ h9 => h9) rfl dX9_isSnapshot_21 ?_
      refine lv_bipush (v := 12) hx hb dX9_isSnapshot_24 (by decide) ?_
      refine va_iald (f := ai 8) hx hb hK hP 2 1 rfl rfl (iv_in (i := (12 : Int32)) (by omega) (by omega)) dX9_isSnapshot_26 ?_
      refine lv_topi (fun v_4 ev_4 => ?_)
      have k_5 : 0 ≤ v_4.toInt ∧ v_4.toInt ≤ 255 := aR_get hR8 (by omega) (by omega) ev_4
      clear ev_4
      refine va_put (D := (dC, dI)) (ci := 11) (v := .int v_4) (ty := .int) (C := RX9) (T := TX9) (N := 38) hx hb hts hin9 tyX9 tyX9_ok nmX9 hown hK hP (rw_D hD) hS 0 rfl rfl 37 (by decide) (hts (.fieldLink RX9 362 "BlockLogModel" "inMany" "I") (by decide +kernel)) (fun _ h9 => h9) rfl (by decide +kernel) rfl rfl (Nat.le_of_ble_eq_true rfl) dX9_isSnapshot_27 (fun H locs hP _ hS => ?_)
      have hP : va_P (dC, dI) vwCl (rw_W o c kc (rU st 37 v_4) lg ai al) H := hP
      refine lv_iload_n hx hb dX9_isSnapshot_30 rfl (lv_at hl 0 rfl) ?_
      refine lv_iconst (v := 1) hx hb dX9_isSnapshot_31 (by decide) ?_
      refine lv_ldc hx hb hown (hts (.constant RX9 208 (1000000)) (by decide +kernel)) dX9_isSnapshot_32 ?_
      refine vp_callSi (va_Run.run (va_runS (As := [.int v_3, .int (1 : Int32), .int (1000000 : Int32)]) (rest := []) ⟨hx, hb, hml, hown, hts⟩ (v_X9_within l dC dI v_3 (1 : Int32) (1000000 : Int32) ) (va_cwS 3 hts gX9_isSnapshot_X9_within rfl rfl rfl (by decide +kernel) ⟨Nat.le_of_ble_eq_true rfl, Nat.le_of_ble_eq_true rfl⟩) ⟨fun a U g mk q => q, fun U hU hW => ⟨rfl, trivial⟩⟩ rfl rfl hl.1 rfl (lv_room (Nat.le_of_ble_eq_true rfl)) dX9_isSnapshot_34 ⟨Nat.le_of_ble_eq_true rfl, Nat.le_of_ble_eq_true rfl⟩)) (fun r_6 er_6 => ?_)
      obtain ⟨k_7, k_8, k_9, k_10, k_11⟩ := er_6
      rcases iv_01 (a := r_6) (by omega) (by omega) with b_12 | b_12
      · skip
        have ib_12 := iv_eq b_12
        rw [b_12]
        refine lv_if_eq (tgt := 61) hx hb dX9_isSnapshot_37 (by decide) (fun c_13 => ?_) (fun c_13 => ?_)
        · skip
          have ic_13 := iv_eq c_13
          refine lv_iconst (v := 0) hx hb dX9_isSnapshot_61 (by decide) ?_
          exact W.zret hx hb hr rfl (fun t ht hW => ⟨⟨_, _, rfl, rfl, v_4, ai 33, ai 34, ai 35, (by omega), (by omega), (by omega), (by omega), (by omega), (by omega), hR35, (by first | exact fun h => absurd h (by omega) | exact fun _ => inI_e hin (by omega)), by rw [ht]; exact hP⟩, hS.F ht⟩) hS.2.2 dX9_isSnapshot_62
        · skip
          have ic_13 := iv_ne c_13
          exfalso
          omega
      · skip
        have ib_12 := iv_eq b_12
        rw [b_12]
        refine lv_if_eq (tgt := 61) hx hb dX9_isSnapshot_37 (by decide) (fun c_14 => ?_) (fun c_14 => ?_)
        · skip
          have ic_14 := iv_eq c_14
          exfalso
          omega
        · skip
          have ic_14 := iv_ne c_14
          refine lv_aload_n hx hb dX9_isSnapshot_40 rfl (lv_at hl 1 rfl) ?_
          refine va_get (D := (dC, dI)) (ci := 11) (v := .int v_4) (C := RX9) (T := TX9) (N := 38) hx hb hts hin9 hown hK hP 0 rfl rfl 37 (by decide) (hts (.fieldLink RX9 362 "BlockLogModel" "inMany" "I") (by decide +kernel)) (fun _ h9 => h9) rfl dX9_isSnapshot_41 ?_
          refine lv_bipush (v := 16) hx hb dX9_isSnapshot_44 (by decide) ?_
          refine lv_icmp_gt (tgt := 61) hx hb dX9_isSnapshot_46 (by decide) (fun c_15 => ?_) (fun c_15 => ?_)
          · skip
            have ic_15 := iv_lt c_15
            refine lv_iconst (v := 0) hx hb dX9_isSnapshot_61 (by decide) ?_
            exact W.zret hx hb hr rfl (fun t ht hW => ⟨⟨_, _, rfl, rfl, v_4, ai 33, ai 34, ai 35, (by omega), (by omega), (by omega), (by omega), (by omega), (by omega), hR35, (by first | exact fun h => absurd h (by omega) | exact fun _ => inI_e hin (by omega)), by rw [ht]; exact hP⟩, hS.F ht⟩) hS.2.2 dX9_isSnapshot_62
          · skip
            have ic_15 := iv_nlt c_15
            refine lv_aload_n hx hb dX9_isSnapshot_49 rfl (lv_at hl 1 rfl) ?_
            refine lv_iconst (v := 4) hx hb dX9_isSnapshot_50 (by decide) ?_
            refine lv_bipush (v := 8) hx hb dX9_isSnapshot_51 (by decide) ?_
            refine vp_callSl (va_Run.run (va_runV (As := [.int (4 : Int32), .int (8 : Int32)]) (rest := []) ⟨hx, hb, hml, hown, hts⟩ (v_X9_fromTape l dC dI o c kc (rU st 37 v_4) lg ai al (4 : Int32) (8 : Int32) (by omega) (by omega) (by omega) (show aR (ai 8) 400 (0) 255 from hR8)) (cwV 2 hts gX9_isSnapshot_X9_fromTape rfl rfl rfl (by decide +kernel) ⟨Nat.le_of_ble_eq_true rfl, Nat.le_of_ble_eq_true rfl⟩) ⟨fun a U g mk q => by obtain ⟨q0, qP, qK⟩ := q; exact ⟨q0, qP, va_K.moved (u := U) (U := U.calling g mk a) (Vm.Alike.refl U.vm) qK⟩, va_recv hK hP (ci := 11) (q := (RX9, TX9, 38)) rfl (q0 := 0) rfl, fun U hU hW => ⟨rfl, by rw [hU]; exact hP, va_K.moved hW.alike hK⟩⟩ rfl rfl hl.1 rfl (lv_room (Nat.le_of_ble_eq_true rfl)) dX9_isSnapshot_53 ⟨Nat.le_of_ble_eq_true rfl, Nat.le_of_ble_eq_true rfl⟩)) (fun r_16 er_16 => ?_)
            refine lv_lconst (v := 0) hx hb dX9_isSnapshot_56 (by decide) ?_
            refine W.lcmp hx hb dX9_isSnapshot_57 ?_
            refine lv_topi (fun v_17 ev_17 => ?_)
            clear ev_17
            refine lv_if_ne (tgt := 63) hx hb dX9_isSnapshot_58 (by decide) (fun c_18 => ?_) (fun c_18 => ?_)
            · skip
              have ic_18 := iv_ne c_18
              refine lv_bipush (v := 13) hx hb dX9_isSnapshot_63 (by decide) ?_
              refine lv_istore_n (lv' := [(2, .int (13 : Int32)), (1, .int v_3), (0, .ref o)]) hx hb dX9_isSnapshot_65 rfl hl (by decide) rfl (fun ls hl => ?_)
              refine lv_iconst (v := (-1)) hx hb dX9_isSnapshot_66 (by decide) ?_
              refine lv_istore_n (lv' := [(3, .int (-1 : Int32)), (2, .int (13 : Int32)), (1, .int v_3), (0, .ref o)]) hx hb dX9_isSnapshot_67 rfl hl (by decide) rfl (fun ls hl => ?_)
              refine lv_iconst (v := 0) hx hb dX9_isSnapshot_68 (by decide) ?_
              refine lv_istore (lv' := [(4, .int (0 : Int32)), (3, .int (-1 : Int32)), (2, .int (13 : Int32)), (1, .int v_3), (0, .ref o)]) hx hb dX9_isSnapshot_69 hl (by decide) rfl (fun ls hl => ?_)
              have loop71 : ∀ (n : Nat) (l4_71 : Int32) (l3_71 : Int32) (l2_71 : Int32) (a33_71 : Nat → Int32) (a34_71 : Nat → Int32) (a35_71 : Nat → Int32) (H : Heap) (locs : List Loc) (ls : Array Slot), (13 ≤ l2_71.toInt) → (l2_71.toInt ≤ (st 9).toInt - 8) → (0 ≤ l4_71.toInt) → (l4_71.toInt ≤ v_4.toInt) → (aR a35_71 16 (0) 255) → (inI a34_71 a35_71 l4_71) → (v_4.toInt - l4_71.toInt : Int).toNat < n → va_P (dC, dI) vwCl (rw_W o c kc (rU st 37 v_4) lg (rU (rU (rU ai 33 a33_71) 34 a34_71) 35 a35_71) al) H → va_S A s.heap H locs → lv_has ls 5 [(4, .int l4_71), (3, .int l3_71), (2, .int l2_71), (1, .int v_3), (0, .ref o)] → W p l e (headSpec wsX9_isSnapshot ({ frames := 2, cells := 0, slots := 0, locals := 48 })).room s m ([.ref o] : List Value).toArray below meth cM H locs 0 0 (MQ below (va_Qi (fun r (u : Int32) => r = u) (fun u t => ∃ (x37 : Int32) (f33 : Nat → Int32) (f34 : Nat → Int32) (f35 : Nat → Int32), (u.toInt = 1 → x37.toInt ≤ 16) ∧ (u.toInt = 1 → 21 ≤ (st 9).toInt) ∧ (0 ≤ u.toInt) ∧ (u.toInt ≤ 1) ∧ (0 ≤ x37.toInt) ∧ (x37.toInt ≤ 255) ∧ (aR f35 16 (0) 255) ∧ (u.toInt = 1 → inI f34 f35 x37) ∧ va_P (dC, dI) vwCl (rw_W o c kc (rU st 37 x37) lg (rU (rU (rU ai 33 f33) 34 f34) 35 f35) al) t.heap) A) ([.ref o] : List Value).toArray s 0 0 A) (F0 m 71 ls []) := by
                intro n
                induction n with
                | zero => intro l4_71 l3_71 l2_71 a33_71 a34_71 a35_71 H locs ls if0_71 if1_71 if2_71 if3_71 hR35 hin hm; exact absurd hm (Nat.not_lt_zero _)
                | succ n ih71 =>
                  intro l4_71 l3_71 l2_71 a33_71 a34_71 a35_71 H locs ls if0_71 if1_71 if2_71 if3_71 hR35 hin hm71 hP hS hl
                  refine lv_iload hx hb dX9_isSnapshot_71 (lv_at hl 0 rfl) ?_
                  refine lv_aload_n hx hb dX9_isSnapshot_73 rfl (lv_at hl 4 rfl) ?_
                  refine va_get (D := (dC, dI)) (ci := 11) (v := .int v_4) (C := RX9) (T := TX9) (N := 38) hx hb hts hin9 hown hK hP 0 rfl rfl 37 (by decide) (hts (.fieldLink RX9 362 "BlockLogModel" "inMany" "I") (by decide +kernel)) (fun _ h9 => h9) rfl dX9_isSnapshot_74 ?_
                  refine lv_icmp_ge (tgt := 211) hx hb dX9_isSnapshot_77 (by decide) (fun c_19 => ?_) (fun c_19 => ?_)
                  · skip
                    have ic_19 := iv_le c_19
                    refine lv_iload_n hx hb dX9_isSnapshot_211 rfl (lv_at hl 2 rfl) ?_
                    refine lv_aload_n hx hb dX9_isSnapshot_212 rfl (lv_at hl 4 rfl) ?_
                    refine va_get (D := (dC, dI)) (ci := 11) (v := .int (st 9)) (C := RX9) (T := TX9) (N := 38) hx hb hts hin9 hown hK hP 0 rfl rfl 9 (by decide) (hts (.fieldLink RX9 271 "BlockLogModel" "tapeSize" "I") (by decide +kernel)) (fun _ h9 => h9) rfl dX9_isSnapshot_213 ?_
                    refine lv_bipush (v := 8) hx hb dX9_isSnapshot_216 (by decide) ?_
                    refine lv_isub hx hb dX9_isSnapshot_218 ?_
                    refine lv_topi (fun v_20 ev_20 => ?_)
                    have rg1 := iv_rng (st 9)
                    have hv_20 : v_20.toInt = (st 9).toInt - 8 := by rw [ev_20]; exact (iv_sub (by omega) (by omega)).trans (by omega)
                    clear ev_20
                    refine lv_icmp_ne (tgt := 242) hx hb dX9_isSnapshot_219 (by decide) (fun c_21 => ?_) (fun c_21 => ?_)
                    · skip
                      have ic_21 := iv_ne c_21
                      refine lv_iconst (v := 0) hx hb dX9_isSnapshot_242 (by decide) ?_
                      exact W.zret hx hb hr rfl (fun t ht hW => ⟨⟨_, _, rfl, rfl, v_4, a33_71, a34_71, a35_71, (by omega), (by omega), (by omega), (by omega), (by omega), (by omega), hR35, (by first | exact fun h => absurd h (by omega) | exact fun _ => inI_e hin (by omega)), by rw [ht]; exact hP⟩, hS.F ht⟩) hS.2.2 dX9_isSnapshot_243
                    · skip
                      have ic_21 := iv_eq c_21
                      refine lv_aload_n hx hb dX9_isSnapshot_222 rfl (lv_at hl 4 rfl) ?_
                      refine lv_iload_n hx hb dX9_isSnapshot_223 rfl (lv_at hl 2 rfl) ?_
                      refine lv_bipush (v := 8) hx hb dX9_isSnapshot_224 (by decide) ?_
                      refine vp_callSl (va_Run.run (va_runV (As := [.int l2_71, .int (8 : Int32)]) (rest := []) ⟨hx, hb, hml, hown, hts⟩ (v_X9_fromTape l dC dI o c kc (rU st 37 v_4) lg (rU (rU (rU ai 33 a33_71) 34 a34_71) 35 a35_71) al l2_71 (8 : Int32) (by omega) (by omega) (by omega) (show aR (ai 8) 400 (0) 255 from hR8)) (cwV 2 hts gX9_isSnapshot_X9_fromTape rfl rfl rfl (by decide +kernel) ⟨Nat.le_of_ble_eq_true rfl, Nat.le_of_ble_eq_true rfl⟩) ⟨fun a U g mk q => by obtain ⟨q0, qP, qK⟩ := q; exact ⟨q0, qP, va_K.moved (u := U) (U := U.calling g mk a) (Vm.Alike.refl U.vm) qK⟩, va_recv hK hP (ci := 11) (q := (RX9, TX9, 38)) rfl (q0 := 0) rfl, fun U hU hW => ⟨rfl, by rw [hU]; exact hP, va_K.moved hW.alike hK⟩⟩ rfl rfl hl.1 rfl (lv_room (Nat.le_of_ble_eq_true rfl)) dX9_isSnapshot_226 ⟨Nat.le_of_ble_eq_true rfl, Nat.le_of_ble_eq_true rfl⟩)) (fun r_22 er_22 => ?_)
                      refine lv_aload_n hx hb dX9_isSnapshot_229 rfl (lv_at hl 4 rfl) ?_
                      refine lv_iload_n hx hb dX9_isSnapshot_230 rfl (lv_at hl 2 rfl) ?_
                      refine vp_callSl (va_Run.run (va_runV (As := [.int l2_71]) (rest := [.long r_22]) ⟨hx, hb, hml, hown, hts⟩ (v_X9_tapeSum l dC dI o c kc (rU st 37 v_4) lg (rU (rU (rU ai 33 a33_71) 34 a34_71) 35 a35_71) al l2_71 (by omega) (by omega) (show aR (ai 8) 400 (0) 255 from hR8)) (cwV 1 hts gX9_isSnapshot_X9_tapeSum rfl rfl rfl (by decide +kernel) ⟨Nat.le_of_ble_eq_true rfl, Nat.le_of_ble_eq_true rfl⟩) ⟨fun a U g mk q => by obtain ⟨q0, qP, qK⟩ := q; exact ⟨q0, qP, va_K.moved (u := U) (U := U.calling g mk a) (Vm.Alike.refl U.vm) qK⟩, va_recv hK hP (ci := 11) (q := (RX9, TX9, 38)) rfl (q0 := 0) rfl, fun U hU hW => ⟨rfl, by rw [hU]; exact hP, va_K.moved hW.alike hK⟩⟩ rfl rfl hl.1 rfl (lv_room (Nat.le_of_ble_eq_true rfl)) dX9_isSnapshot_231 ⟨Nat.le_of_ble_eq_true rfl, Nat.le_of_ble_eq_true rfl⟩)) (fun r_23 er_23 => ?_)
                      refine W.lcmp hx hb dX9_isSnapshot_234 ?_
                      refine lv_topi (fun v_24 ev_24 => ?_)
                      clear ev_24
                      refine lv_if_ne (tgt := 242) hx hb dX9_isSnapshot_235 (by decide) (fun c_25 => ?_) (fun c_25 => ?_)
                      · skip
                        have ic_25 := iv_ne c_25
                        refine lv_iconst (v := 0) hx hb dX9_isSnapshot_242 (by decide) ?_
                        exact W.zret hx hb hr rfl (fun t ht hW => ⟨⟨_, _, rfl, rfl, v_4, a33_71, a34_71, a35_71, (by omega), (by omega), (by omega), (by omega), (by omega), (by omega), hR35, (by first | exact fun h => absurd h (by omega) | exact fun _ => inI_e hin (by omega)), by rw [ht]; exact hP⟩, hS.F ht⟩) hS.2.2 dX9_isSnapshot_243
                      · skip
                        have ic_25 := iv_eq c_25
                        refine lv_iconst (v := 1) hx hb dX9_isSnapshot_238 (by decide) ?_
                        refine lv_goto (tgt := 243) hx hb dX9_isSnapshot_239 (by decide) ?_
                        exact W.zret hx hb hr rfl (fun t ht hW => ⟨⟨_, _, rfl, rfl, v_4, a33_71, a34_71, a35_71, (by omega), (by omega), (by omega), (by omega), (by omega), (by omega), hR35, (by first | exact fun h => absurd h (by omega) | exact fun _ => inI_e hin (by omega)), by rw [ht]; exact hP⟩, hS.F ht⟩) hS.2.2 dX9_isSnapshot_243
                  · skip
                    have ic_19 := iv_nle c_19
                    refine lv_iload_n hx hb dX9_isSnapshot_80 rfl (lv_at hl 2 rfl) ?_
                    refine lv_iconst (v := 2) hx hb dX9_isSnapshot_81 (by decide) ?_
                    refine lv_iadd hx hb dX9_isSnapshot_82 ?_
                    refine lv_topi (fun v_26 ev_26 => ?_)
                    have rg2 := iv_rng l2_71
                    have hv_26 : v_26.toInt = l2_71.toInt + 2 := by rw [ev_26]; exact (iv_add (by omega) (by omega)).trans (by omega)
                    clear ev_26
                    refine lv_aload_n hx hb dX9_isSnapshot_83 rfl (lv_at hl 4 rfl) ?_
                    refine va_get (D := (dC, dI)) (ci := 11) (v := .int (st 9)) (C := RX9) (T := TX9) (N := 38) hx hb hts hin9 hown hK hP 0 rfl rfl 9 (by decide) (hts (.fieldLink RX9 271 "BlockLogModel" "tapeSize" "I") (by decide +kernel)) (fun _ h9 => h9) rfl dX9_isSnapshot_84 ?_
                    refine lv_bipush (v := 8) hx hb dX9_isSnapshot_87 (by decide) ?_
                    refine lv_isub hx hb dX9_isSnapshot_89 ?_
                    refine lv_topi (fun v_27 ev_27 => ?_)
                    have rg3 := iv_rng (st 9)
                    have hv_27 : v_27.toInt = (st 9).toInt - 8 := by rw [ev_27]; exact (iv_sub (by omega) (by omega)).trans (by omega)
                    clear ev_27
                    refine lv_icmp_le (tgt := 95) hx hb dX9_isSnapshot_90 (by decide) (fun c_28 => ?_) (fun c_28 => ?_)
                    · skip
                      have ic_28 := iv_le c_28
                      refine lv_aload_n hx hb dX9_isSnapshot_95 rfl (lv_at hl 4 rfl) ?_
                      refine va_get (D := (dC, dI)) (ci := 11) (v := .ref (c 33)) (C := RX9) (T := TX9) (N := 38) hx hb hts hin9 hown hK hP 0 rfl rfl 33 (by decide) (hts (.fieldLink RX9 49 "BlockLogModel" "inSlot" "[I") (by decide +kernel)) (fun _ h9 => h9) rfl dX9_isSnapshot_96 ?_
                      refine lv_iload hx hb dX9_isSnapshot_99 (lv_at hl 0 rfl) ?_
                      refine lv_aload_n hx hb dX9_isSnapshot_101 rfl (lv_at hl 4 rfl) ?_
                      refine va_get (D := (dC, dI)) (ci := 11) (v := .ref (c 8)) (C := RX9) (T := TX9) (N := 38) hx hb hts hin9 hown hK hP 0 rfl rfl 8 (by decide) (hts (.fieldLink RX9 14 "BlockLogModel" "tape" "[I") (by decide +kernel)) (fun _ h9 => h9) rfl dX9_isSnapshot_102 ?_
                      refine lv_iload_n hx hb dX9_isSnapshot_105 rfl (lv_at hl 2 rfl) ?_
                      refine va_iald (f := ai 8) hx hb hK hP 2 1 rfl rfl (iv_in (i := l2_71) (by omega) (by omega)) dX9_isSnapshot_106 ?_
                      refine lv_topi (fun v_29 ev_29 => ?_)
                      have k_30 : 0 ≤ v_29.toInt ∧ v_29.toInt ≤ 255 := aR_get hR8 (by omega) (by omega) ev_29
                      clear ev_29
                      refine va_iast (f := a33_71) hx hb hK hP (rw_D hD) hS 13 12 rfl rfl (iv_in (i := l4_71) (by omega) (by omega)) dX9_isSnapshot_107 (fun H locs hP _ hS => ?_)
                      have hP : va_P (dC, dI) vwCl (rw_W o c kc (rU st 37 v_4) lg (rU (rU (rU ai 33 (upd a33_71 l4_71.toNatClampNeg v_29)) 34 a34_71) 35 a35_71) al) H := hP
                      generalize hU_inSlot : upd a33_71 l4_71.toNatClampNeg v_29 = g_31 at hP
                      clear hU_inSlot
                      refine lv_aload_n hx hb dX9_isSnapshot_108 rfl (lv_at hl 4 rfl) ?_
                      refine va_get (D := (dC, dI)) (ci := 11) (v := .ref (c 35)) (C := RX9) (T := TX9) (N := 38) hx hb hts hin9 hown hK hP 0 rfl rfl 35 (by decide) (hts (.fieldLink RX9 55 "BlockLogModel" "inSize" "[I") (by decide +kernel)) (fun _ h9 => h9) rfl dX9_isSnapshot_109 ?_
                      refine lv_iload hx hb dX9_isSnapshot_112 (lv_at hl 0 rfl) ?_
                      refine lv_aload_n hx hb dX9_isSnapshot_114 rfl (lv_at hl 4 rfl) ?_
                      refine va_get (D := (dC, dI)) (ci := 11) (v := .ref (c 8)) (C := RX9) (T := TX9) (N := 38) hx hb hts hin9 hown hK hP 0 rfl rfl 8 (by decide) (hts (.fieldLink RX9 14 "BlockLogModel" "tape" "[I") (by decide +kernel)) (fun _ h9 => h9) rfl dX9_isSnapshot_115 ?_
                      refine lv_iload_n hx hb dX9_isSnapshot_118 rfl (lv_at hl 2 rfl) ?_
                      refine lv_iconst (v := 1) hx hb dX9_isSnapshot_119 (by decide) ?_
                      refine lv_iadd hx hb dX9_isSnapshot_120 ?_
                      refine lv_topi (fun v_32 ev_32 => ?_)
                      have hv_32 : v_32.toInt = l2_71.toInt + 1 := by rw [ev_32]; exact (iv_add (by omega) (by omega)).trans (by omega)
                      clear ev_32
                      refine va_iald (f := ai 8) hx hb hK hP 2 1 rfl rfl (iv_in (i := v_32) (by omega) (by omega)) dX9_isSnapshot_121 ?_
                      refine lv_topi (fun v_33 ev_33 => ?_)
                      have k_34 : 0 ≤ v_33.toInt ∧ v_33.toInt ≤ 255 := aR_get hR8 (by omega) (by omega) ev_33
                      clear ev_33
                      refine va_iast (f := a35_71) hx hb hK hP (rw_D hD) hS 15 14 rfl rfl (iv_in (i := l4_71) (by omega) (by omega)) dX9_isSnapshot_122 (fun H locs hP _ hS => ?_)
                      have hP : va_P (dC, dI) vwCl (rw_W o c kc (rU st 37 v_4) lg (rU (rU (rU ai 33 g_31) 34 a34_71) 35 (upd a35_71 l4_71.toNatClampNeg v_33)) al) H := hP
                      generalize hU_inSize : upd a35_71 l4_71.toNatClampNeg v_33 = g_35 at hP
                      have hR35 : aR g_35 16 (0) 255 := aR_upd hR35 hU_inSize (by omega) (by omega)
                      refine lv_aload_n hx hb dX9_isSnapshot_123 rfl (lv_at hl 4 rfl) ?_
                      refine va_get (D := (dC, dI)) (ci := 11) (v := .ref (c 34)) (C := RX9) (T := TX9) (N := 38) hx hb hts hin9 hown hK hP 0 rfl rfl 34 (by decide) (hts (.fieldLink RX9 52 "BlockLogModel" "inAt" "[I") (by decide +kernel)) (fun _ h9 => h9) rfl dX9_isSnapshot_124 ?_
                      refine lv_iload hx hb dX9_isSnapshot_127 (lv_at hl 0 rfl) ?_
                      refine lv_iload_n hx hb dX9_isSnapshot_129 rfl (lv_at hl 2 rfl) ?_
                      refine lv_iconst (v := 2) hx hb dX9_isSnapshot_130 (by decide) ?_
                      refine lv_iadd hx hb dX9_isSnapshot_131 ?_
                      refine lv_topi (fun v_36 ev_36 => ?_)
                      have hv_36 : v_36.toInt = l2_71.toInt + 2 := by rw [ev_36]; exact (iv_add (by omega) (by omega)).trans (by omega)
                      clear ev_36
                      refine va_iast (f := a34_71) hx hb hK hP (rw_D hD) hS 14 13 rfl rfl (iv_in (i := l4_71) (by omega) (by omega)) dX9_isSnapshot_132 (fun H locs hP _ hS => ?_)
                      have hP : va_P (dC, dI) vwCl (rw_W o c kc (rU st 37 v_4) lg (rU (rU (rU ai 33 g_31) 34 (upd a34_71 l4_71.toNatClampNeg v_36)) 35 g_35) al) H := hP
                      generalize hU_inAt : upd a34_71 l4_71.toNatClampNeg v_36 = g_37 at hP
                      refine lv_iload_n hx hb dX9_isSnapshot_133 rfl (lv_at hl 2 rfl) ?_
                      refine lv_iconst (v := 2) hx hb dX9_isSnapshot_134 (by decide) ?_
                      refine lv_aload_n hx hb dX9_isSnapshot_135 rfl (lv_at hl 4 rfl) ?_
                      refine va_get (D := (dC, dI)) (ci := 11) (v := .ref (c 35)) (C := RX9) (T := TX9) (N := 38) hx hb hts hin9 hown hK hP 0 rfl rfl 35 (by decide) (hts (.fieldLink RX9 55 "BlockLogModel" "inSize" "[I") (by decide +kernel)) (fun _ h9 => h9) rfl dX9_isSnapshot_136 ?_
                      refine lv_iload hx hb dX9_isSnapshot_139 (lv_at hl 0 rfl) ?_
                      refine va_iald (f := g_35) hx hb hK hP 15 14 rfl rfl (iv_in (i := l4_71) (by omega) (by omega)) dX9_isSnapshot_141 ?_
                      refine lv_topi (fun v_38 ev_38 => ?_)
                      have k_39 : 0 ≤ v_38.toInt ∧ v_38.toInt ≤ 255 := aR_get hR35 (by omega) (by omega) ev_38
                      have hX_inSize := ev_38
                      have k_40 : v_38.toInt = (g_35 l4_71.toNatClampNeg).toInt := by rw [ev_38]
                      clear ev_38
                      refine lv_iadd hx hb dX9_isSnapshot_142 ?_
                      refine lv_topi (fun v_41 ev_41 => ?_)
                      have rg4 := iv_rng v_38
                      have hv_41 : v_41.toInt = 2 + v_38.toInt := by rw [ev_41]; exact (iv_add (by omega) (by omega)).trans (by omega)
                      clear ev_41
                      refine lv_iadd hx hb dX9_isSnapshot_143 ?_
                      refine lv_topi (fun v_42 ev_42 => ?_)
                      have rg5 := iv_rng v_41
                      have hv_42 : v_42.toInt = l2_71.toInt + v_41.toInt := by rw [ev_42]; exact (iv_add (by omega) (by omega)).trans (by omega)
                      clear ev_42
                      have hX1 := hX_inSize
                      refine lv_istore_n (lv' := [(2, .int v_42), (4, .int l4_71), (3, .int l3_71), (1, .int v_3), (0, .ref o)]) hx hb dX9_isSnapshot_144 rfl hl (by decide) rfl (fun ls hl => ?_)
                      refine lv_aload_n hx hb dX9_isSnapshot_145 rfl (lv_at hl 4 rfl) ?_
                      refine va_get (D := (dC, dI)) (ci := 11) (v := .ref (c 33)) (C := RX9) (T := TX9) (N := 38) hx hb hts hin9 hown hK hP 0 rfl rfl 33 (by decide) (hts (.fieldLink RX9 49 "BlockLogModel" "inSlot" "[I") (by decide +kernel)) (fun _ h9 => h9) rfl dX9_isSnapshot_146 ?_
                      refine lv_iload hx hb dX9_isSnapshot_149 (lv_at hl 1 rfl) ?_
                      refine va_iald (f := g_31) hx hb hK hP 13 12 rfl rfl (iv_in (i := l4_71) (by omega) (by omega)) dX9_isSnapshot_151 ?_
                      refine lv_topi (fun v_43 ev_43 => ?_)
                      clear ev_43
                      refine lv_iload_n hx hb dX9_isSnapshot_152 rfl (lv_at hl 2 rfl) ?_
                      refine lv_icmp_le (tgt := 195) hx hb dX9_isSnapshot_153 (by decide) (fun c_44 => ?_) (fun c_44 => ?_)
                      · skip
                        have ic_44 := iv_le c_44
                        refine lv_iconst (v := 0) hx hb dX9_isSnapshot_195 (by decide) ?_
                        exact W.zret hx hb hr rfl (fun t ht hW => ⟨⟨_, _, rfl, rfl, v_4, g_31, g_37, g_35, (by omega), (by omega), (by omega), (by omega), (by omega), (by omega), hR35, (by first | exact fun h => absurd h (by omega) | exact fun _ => inI_e hin (by omega)), by rw [ht]; exact hP⟩, hS.F ht⟩) hS.2.2 dX9_isSnapshot_196
                      · skip
                        have ic_44 := iv_nle c_44
                        refine lv_aload_n hx hb dX9_isSnapshot_156 rfl (lv_at hl 4 rfl) ?_
                        refine va_get (D := (dC, dI)) (ci := 11) (v := .ref (c 33)) (C := RX9) (T := TX9) (N := 38) hx hb hts hin9 hown hK hP 0 rfl rfl 33 (by decide) (hts (.fieldLink RX9 49 "BlockLogModel" "inSlot" "[I") (by decide +kernel)) (fun _ h9 => h9) rfl dX9_isSnapshot_157 ?_
                        refine lv_iload hx hb dX9_isSnapshot_160 (lv_at hl 1 rfl) ?_
                        refine va_iald (f := g_31) hx hb hK hP 13 12 rfl rfl (iv_in (i := l4_71) (by omega) (by omega)) dX9_isSnapshot_162 ?_
                        refine lv_topi (fun v_45 ev_45 => ?_)
                        clear ev_45
                        refine lv_bipush (v := 15) hx hb dX9_isSnapshot_163 (by decide) ?_
                        refine lv_icmp_gt (tgt := 195) hx hb dX9_isSnapshot_165 (by decide) (fun c_46 => ?_) (fun c_46 => ?_)
                        · skip
                          have ic_46 := iv_lt c_46
                          refine lv_iconst (v := 0) hx hb dX9_isSnapshot_195 (by decide) ?_
                          exact W.zret hx hb hr rfl (fun t ht hW => ⟨⟨_, _, rfl, rfl, v_4, g_31, g_37, g_35, (by omega), (by omega), (by omega), (by omega), (by omega), (by omega), hR35, (by first | exact fun h => absurd h (by omega) | exact fun _ => inI_e hin (by omega)), by rw [ht]; exact hP⟩, hS.F ht⟩) hS.2.2 dX9_isSnapshot_196
                        · skip
                          have ic_46 := iv_nlt c_46
                          refine lv_aload_n hx hb dX9_isSnapshot_168 rfl (lv_at hl 4 rfl) ?_
                          refine va_get (D := (dC, dI)) (ci := 11) (v := .ref (c 35)) (C := RX9) (T := TX9) (N := 38) hx hb hts hin9 hown hK hP 0 rfl rfl 35 (by decide) (hts (.fieldLink RX9 55 "BlockLogModel" "inSize" "[I") (by decide +kernel)) (fun _ h9 => h9) rfl dX9_isSnapshot_169 ?_
                          refine lv_iload hx hb dX9_isSnapshot_172 (lv_at hl 1 rfl) ?_
                          refine va_iald (f := g_35) hx hb hK hP 15 14 rfl rfl (iv_in (i := l4_71) (by omega) (by omega)) dX9_isSnapshot_174 ?_
                          refine lv_topi (fun v_47 ev_47 => ?_)
                          have k_48 : 0 ≤ v_47.toInt ∧ v_47.toInt ≤ 255 := aR_get hR35 (by omega) (by omega) ev_47
                          have hX_inSize := ev_47
                          have k_49 : v_47.toInt = (g_35 l4_71.toNatClampNeg).toInt := by rw [ev_47]
                          clear ev_47
                          refine lv_iconst (v := 1) hx hb dX9_isSnapshot_175 (by decide) ?_
                          refine lv_bipush (v := 16) hx hb dX9_isSnapshot_176 (by decide) ?_
                          refine vp_callSi (va_Run.run (va_runS (As := [.int v_47, .int (1 : Int32), .int (16 : Int32)]) (rest := []) ⟨hx, hb, hml, hown, hts⟩ (v_X9_within l dC dI v_47 (1 : Int32) (16 : Int32) ) (va_cwS 3 hts gX9_isSnapshot_X9_within rfl rfl rfl (by decide +kernel) ⟨Nat.le_of_ble_eq_true rfl, Nat.le_of_ble_eq_true rfl⟩) ⟨fun a U g mk q => q, fun U hU hW => ⟨rfl, trivial⟩⟩ rfl rfl hl.1 rfl (lv_room (Nat.le_of_ble_eq_true rfl)) dX9_isSnapshot_178 ⟨Nat.le_of_ble_eq_true rfl, Nat.le_of_ble_eq_true rfl⟩)) (fun r_50 er_50 => ?_)
                          obtain ⟨k_51, k_52, k_53, k_54, k_55⟩ := er_50
                          rcases iv_01 (a := r_50) (by omega) (by omega) with b_56 | b_56
                          · skip
                            have ib_56 := iv_eq b_56
                            rw [b_56]
                            refine lv_if_eq (tgt := 195) hx hb dX9_isSnapshot_181 (by decide) (fun c_57 => ?_) (fun c_57 => ?_)
                            · skip
                              have ic_57 := iv_eq c_57
                              refine lv_iconst (v := 0) hx hb dX9_isSnapshot_195 (by decide) ?_
                              exact W.zret hx hb hr rfl (fun t ht hW => ⟨⟨_, _, rfl, rfl, v_4, g_31, g_37, g_35, (by omega), (by omega), (by omega), (by omega), (by omega), (by omega), hR35, (by first | exact fun h => absurd h (by omega) | exact fun _ => inI_e hin (by omega)), by rw [ht]; exact hP⟩, hS.F ht⟩) hS.2.2 dX9_isSnapshot_196
                            · skip
                              have ic_57 := iv_ne c_57
                              exfalso
                              omega
                          · skip
                            have ib_56 := iv_eq b_56
                            rw [b_56]
                            refine lv_if_eq (tgt := 195) hx hb dX9_isSnapshot_181 (by decide) (fun c_58 => ?_) (fun c_58 => ?_)
                            · skip
                              have ic_58 := iv_eq c_58
                              exfalso
                              omega
                            · skip
                              have ic_58 := iv_ne c_58
                              refine lv_iload_n hx hb dX9_isSnapshot_184 rfl (lv_at hl 0 rfl) ?_
                              refine lv_aload_n hx hb dX9_isSnapshot_185 rfl (lv_at hl 4 rfl) ?_
                              refine va_get (D := (dC, dI)) (ci := 11) (v := .int (st 9)) (C := RX9) (T := TX9) (N := 38) hx hb hts hin9 hown hK hP 0 rfl rfl 9 (by decide) (hts (.fieldLink RX9 271 "BlockLogModel" "tapeSize" "I") (by decide +kernel)) (fun _ h9 => h9) rfl dX9_isSnapshot_186 ?_
                              refine lv_bipush (v := 8) hx hb dX9_isSnapshot_189 (by decide) ?_
                              refine lv_isub hx hb dX9_isSnapshot_191 ?_
                              refine lv_topi (fun v_59 ev_59 => ?_)
                              have hv_59 : v_59.toInt = (st 9).toInt - 8 := by rw [ev_59]; exact (iv_sub (by omega) (by omega)).trans (by omega)
                              clear ev_59
                              refine lv_icmp_le (tgt := 197) hx hb dX9_isSnapshot_192 (by decide) (fun c_60 => ?_) (fun c_60 => ?_)
                              · skip
                                have ic_60 := iv_le c_60
                                refine lv_aload_n hx hb dX9_isSnapshot_197 rfl (lv_at hl 4 rfl) ?_
                                refine va_get (D := (dC, dI)) (ci := 11) (v := .ref (c 33)) (C := RX9) (T := TX9) (N := 38) hx hb hts hin9 hown hK hP 0 rfl rfl 33 (by decide) (hts (.fieldLink RX9 49 "BlockLogModel" "inSlot" "[I") (by decide +kernel)) (fun _ h9 => h9) rfl dX9_isSnapshot_198 ?_
                                refine lv_iload hx hb dX9_isSnapshot_201 (lv_at hl 1 rfl) ?_
                                refine va_iald (f := g_31) hx hb hK hP 13 12 rfl rfl (iv_in (i := l4_71) (by omega) (by omega)) dX9_isSnapshot_203 ?_
                                refine lv_topi (fun v_61 ev_61 => ?_)
                                clear ev_61
                                refine lv_istore_n (lv' := [(3, .int v_61), (2, .int v_42), (4, .int l4_71), (1, .int v_3), (0, .ref o)]) hx hb dX9_isSnapshot_204 rfl hl (by decide) rfl (fun ls hl => ?_)
                                obtain ⟨x_62, ex_62⟩ : ∃ z : Int32, z = l4_71 + (1) := ⟨_, rfl⟩
                                refine lv_iinc (v := x_62) (lv' := [(4, .int x_62), (3, .int v_61), (2, .int v_42), (1, .int v_3), (0, .ref o)]) hx hb dX9_isSnapshot_205 hl (k := 2) rfl (by rw [ex_62]; rfl) (by decide) rfl (fun ls hl => ?_)
                                have rg6 := iv_rng l4_71
                                have hx_62 : x_62.toInt = l4_71.toInt + (1) := by rw [ex_62]; exact (iv_add (by omega) (by omega)).trans (by omega)
                                clear ex_62
                                refine lv_goto (tgt := 71) hx hb dX9_isSnapshot_208 (by decide) ?_
                                exact ih71 x_62 v_61 v_42 g_31 g_37 g_35 _ _ _ (by omega) (by omega) (by omega) (by omega) (by assumption) (inI_s hin hU_inSize hU_inAt hX1 hX_inSize (by omega) (by omega) (by omega) (by omega) (by omega) (by omega)) (by omega) hP hS (lv_sub hl [0, 1, 2, 3, 4] rfl)
                              · skip
                                have ic_60 := iv_nle c_60
                                refine lv_iconst (v := 0) hx hb dX9_isSnapshot_195 (by decide) ?_
                                exact W.zret hx hb hr rfl (fun t ht hW => ⟨⟨_, _, rfl, rfl, v_4, g_31, g_37, g_35, (by omega), (by omega), (by omega), (by omega), (by omega), (by omega), hR35, (by first | exact fun h => absurd h (by omega) | exact fun _ => inI_e hin (by omega)), by rw [ht]; exact hP⟩, hS.F ht⟩) hS.2.2 dX9_isSnapshot_196
                    · skip
                      have ic_28 := iv_nle c_28
                      refine lv_iconst (v := 0) hx hb dX9_isSnapshot_93 (by decide) ?_
                      exact W.zret hx hb hr rfl (fun t ht hW => ⟨⟨_, _, rfl, rfl, v_4, a33_71, a34_71, a35_71, (by omega), (by omega), (by omega), (by omega), (by omega), (by omega), hR35, (by first | exact fun h => absurd h (by omega) | exact fun _ => inI_e hin (by omega)), by rw [ht]; exact hP⟩, hS.F ht⟩) hS.2.2 dX9_isSnapshot_94
              exact loop71 ((v_4.toInt - 0 : Int).toNat + 1) (0 : Int32) (-1 : Int32) (13 : Int32) (ai 33) (ai 34) (ai 35) _ _ _ (by omega) (by omega) (by omega) (by omega) (by assumption) (inI_0 (by omega)) (by omega) hP hS (lv_sub hl [0, 1, 2, 3, 4] rfl)
            · skip
              have ic_18 := iv_eq c_18
              refine lv_iconst (v := 0) hx hb dX9_isSnapshot_61 (by decide) ?_
              exact W.zret hx hb hr rfl (fun t ht hW => ⟨⟨_, _, rfl, rfl, v_4, ai 33, ai 34, ai 35, (by omega), (by omega), (by omega), (by omega), (by omega), (by omega), hR35, (by first | exact fun h => absurd h (by omega) | exact fun _ => inI_e hin (by omega)), by rw [ht]; exact hP⟩, hS.F ht⟩) hS.2.2 dX9_isSnapshot_62
    · skip
      have ic_1 := iv_nle c_1
      refine lv_iconst (v := 0) hx hb dX9_isSnapshot_9 (by decide) ?_
      exact W.zret hx hb hr rfl (fun t ht hW => ⟨⟨_, _, rfl, rfl, st 37, ai 33, ai 34, ai 35, (by omega), (by omega), (by omega), (by omega), (by omega), (by omega), hR35, (by first | exact fun h => absurd h (by omega) | exact fun _ => inI_e hin (by omega)), by rw [ht]; exact hP⟩, hS.F ht⟩) hS.2.2 dX9_isSnapshot_10
  exact main s.heap [] hP hS

set_option maxHeartbeats 4000000 in
set_option maxRecDepth 100000 in
theorem v_X9_layIn (l : Launch) (dC : Nat → ClassId) (dI : Nat → Nat → Nat) (o : Nat) (c : Nat → Nat) (kc : Nat → ClassId) (st : Nat → Int32) (lg : Nat → Int64) (ai : Nat → Nat → Int32) (al : Nat → Nat → Int64) (p0 : Int32) (sz : Nat) (hf37a : 0 ≤ (st 37).toInt) (hf37b : (st 37).toInt ≤ 255) (hq0 : 0 ≤ p0.toInt) (hq1 : p0.toInt < (st 37).toInt) (hq2 : (st 37).toInt ≤ 16) (hR8 : aR (ai 8) 400 (0) 255) (hR35 : aR (ai 35) 16 (0) 255) (hin : inI (ai 34) (ai 35) (st 37)) : Met l yX9_layIn wsX9_layIn ({ frames := 2, cells := 0, slots := 0, locals := 49 }) (va_Pc [.ref o, .int p0] (fun U => U.heap.size = sz ∧ va_P (dC, dI) vwCl (rw_W o c kc st lg ai al) U.heap ∧ va_K (dC, dI) vwCl (rw_T kc) U ∧ va_D (fun _ => True) (rw_W o c kc st lg ai al))) (va_Qv (fun (_ : Unit) => True) (fun _ t => ∃ (f14 : Nat → Int32) (g36 : Nat → Int64), va_P (dC, dI) vwCl (rw_W o c kc st lg (rU ai 14 f14) (rU al 36 g36)) t.heap) (va_A (rw_W o c kc st lg ai al) sz)) 0 0 (va_A (rw_W o c kc st lg ai al) sz) := by
  refine Met.ofW (cc := cX9_layIn) (maxL := 3) (ret := none) (by decide) rfl ?_
  intro p e s m args below meth cM s₁ B hml hv
  obtain ⟨rfl, hsz, hP, hK, hD0⟩ := hv
  have hx := B.exec
  have hb := B.bytes
  have hr := B.returns
  have hts := atoms_spec (ws := wsX9_layIn) B.pre
  have hown : s.vm.findClass RX9 = some m.cls := findClass_of_methodNamed B.named
  subst hsz
  have hD := hD0.self (sz := s.heap.size)
  generalize hAe : va_A (rw_W o c kc st lg ai al) s.heap.size = A at hD ⊢
  have hA : ∀ q : Nat, s.heap.size ≤ q → A q := fun q h => by rw [← hAe]; exact Or.inr h
  have hS : va_S A s.heap s.heap [] := va_S.rf
  clear hAe hD0
  have hl := lv_entry ([.ref o, .int p0]) (n := 3) (Nat.le_of_ble_eq_true rfl)
  rw [lg_entry_eq]
  generalize (lg_sl ([.ref o, .int p0]) ++ List.replicate (3 - (lg_sl ([.ref o, .int p0])).length) Slot.unset).toArray = ls at hl ⊢
  have hl : lv_has ls 3 [(0, .ref o), (1, .int p0)] := hl
  have z_0 : (0 : Int32).toInt = 0 := by decide
  have z_1 : (1 : Int32).toInt = 1 := by decide
  have z_3 : (3 : Int32).toInt = 3 := by decide
  have z_8 : (8 : Int32).toInt = 8 := by decide
  have z_16 : (16 : Int32).toInt = 16 := by decide
  have z_17 : (17 : Int32).toInt = 17 := by decide
  have z_25 : (25 : Int32).toInt = 25 := by decide
  have z_165 : (165 : Int32).toInt = 165 := by decide
  have hin9 : ∀ w ∈ u_ws RX9 TX9 38, w ∈ wsX9_layIn := by decide +kernel
  have main : ∀ (H : Heap) (locs : List Loc), va_P (dC, dI) vwCl (rw_W o c kc st lg ai al) H → va_S A s.heap H locs → W p l e (headSpec wsX9_layIn ({ frames := 2, cells := 0, slots := 0, locals := 49 })).room s m ([.ref o, .int p0] : List Value).toArray below meth cM H locs 0 0 (MQ below (va_Qv (fun (_ : Unit) => True) (fun _ t => ∃ (f14 : Nat → Int32) (g36 : Nat → Int64), va_P (dC, dI) vwCl (rw_W o c kc st lg (rU ai 14 f14) (rU al 36 g36)) t.heap) A) ([.ref o, .int p0] : List Value).toArray s 0 0 A) (F0 m 0 ls []) := by
    intro H locs hP hS
    have k_1 : 0 ≤ ((ai 34) p0.toNatClampNeg).toInt := (inI_u hin (i := p0) (by omega) (by omega)).1
    have k_2 : 1 ≤ ((ai 35) p0.toNatClampNeg).toInt := (inI_u hin (i := p0) (by omega) (by omega)).2.1
    have k_3 : ((ai 35) p0.toNatClampNeg).toInt ≤ 16 := (inI_u hin (i := p0) (by omega) (by omega)).2.2.1
    have k_4 : ((ai 34) p0.toNatClampNeg).toInt + ((ai 35) p0.toNatClampNeg).toInt ≤ 392 := (inI_u hin (i := p0) (by omega) (by omega)).2.2.2
    refine lv_aload_n hx hb dX9_layIn_0 rfl (lv_at hl 0 rfl) ?_
    refine va_get (D := (dC, dI)) (ci := 11) (v := .ref (c 14)) (C := RX9) (T := TX9) (N := 38) hx hb hts hin9 hown hK hP 0 rfl rfl 14 (by decide) (hts (.fieldLink RX9 24 "BlockLogModel" "fresh" "[I") (by decide +kernel)) (fun _ h9 => h9) rfl dX9_layIn_1 ?_
    refine lv_iconst (v := 0) hx hb dX9_layIn_4 (by decide) ?_
    refine lv_aload_n hx hb dX9_layIn_5 rfl (lv_at hl 0 rfl) ?_
    refine va_get (D := (dC, dI)) (ci := 11) (v := .ref (c 35)) (C := RX9) (T := TX9) (N := 38) hx hb hts hin9 hown hK hP 0 rfl rfl 35 (by decide) (hts (.fieldLink RX9 55 "BlockLogModel" "inSize" "[I") (by decide +kernel)) (fun _ h9 => h9) rfl dX9_layIn_6 ?_
    refine lv_iload_n hx hb dX9_layIn_9 rfl (lv_at hl 1 rfl) ?_
    refine va_iald (f := ai 35) hx hb hK hP 15 14 rfl rfl (iv_in (i := p0) (by omega) (by omega)) dX9_layIn_10 ?_
    refine lv_topi (fun v_5 ev_5 => ?_)
    have k_6 : 0 ≤ v_5.toInt ∧ v_5.toInt ≤ 255 := aR_get hR35 (by omega) (by omega) ev_5
    have hX_inSize := ev_5
    have k_7 : v_5.toInt = ((ai 35) p0.toNatClampNeg).toInt := by rw [ev_5]
    clear ev_5
    refine va_iast (f := ai 14) hx hb hK hP (rw_D hD) hS 5 4 rfl rfl (iv_in (i := (0 : Int32)) (by omega) (by omega)) dX9_layIn_11 (fun H locs hP _ hS => ?_)
    have hP : va_P (dC, dI) vwCl (rw_W o c kc st lg (rU ai 14 (upd (ai 14) (0 : Int32).toNatClampNeg v_5)) al) H := hP
    generalize hU_fresh : upd (ai 14) (0 : Int32).toNatClampNeg v_5 = g_8 at hP
    clear hU_fresh
    refine lv_iconst (v := 0) hx hb dX9_layIn_12 (by decide) ?_
    refine lv_istore_n (lv' := [(2, .int (0 : Int32)), (0, .ref o), (1, .int p0)]) hx hb dX9_layIn_13 rfl hl (by decide) rfl (fun ls hl => ?_)
    have loop14 : ∀ (n : Nat) (l2_14 : Int32) (a14_14 : Nat → Int32) (H : Heap) (locs : List Loc) (ls : Array Slot), (0 ≤ l2_14.toInt) → (l2_14.toInt ≤ 16) → (16 - l2_14.toInt : Int).toNat < n → va_P (dC, dI) vwCl (rw_W o c kc st lg (rU ai 14 a14_14) al) H → va_S A s.heap H locs → lv_has ls 3 [(2, .int l2_14), (0, .ref o), (1, .int p0)] → W p l e (headSpec wsX9_layIn ({ frames := 2, cells := 0, slots := 0, locals := 49 })).room s m ([.ref o, .int p0] : List Value).toArray below meth cM H locs 0 0 (MQ below (va_Qv (fun (_ : Unit) => True) (fun _ t => ∃ (f14 : Nat → Int32) (g36 : Nat → Int64), va_P (dC, dI) vwCl (rw_W o c kc st lg (rU ai 14 f14) (rU al 36 g36)) t.heap) A) ([.ref o, .int p0] : List Value).toArray s 0 0 A) (F0 m 14 ls []) := by
      intro n
      induction n with
      | zero => intro l2_14 a14_14 H locs ls if0_14 if1_14 hm; exact absurd hm (Nat.not_lt_zero _)
      | succ n ih14 =>
        intro l2_14 a14_14 H locs ls if0_14 if1_14 hm14 hP hS hl
        refine lv_iload_n hx hb dX9_layIn_14 rfl (lv_at hl 0 rfl) ?_
        refine lv_bipush (v := 16) hx hb dX9_layIn_15 (by decide) ?_
        refine lv_icmp_ge (tgt := 61) hx hb dX9_layIn_17 (by decide) (fun c_9 => ?_) (fun c_9 => ?_)
        · skip
          have ic_9 := iv_le c_9
          refine lv_aload_n hx hb dX9_layIn_61 rfl (lv_at hl 1 rfl) ?_
          refine va_get (D := (dC, dI)) (ci := 11) (v := .ref (c 36)) (C := RX9) (T := TX9) (N := 38) hx hb hts hin9 hown hK hP 0 rfl rfl 36 (by decide) (hts (.fieldLink RX9 58 "BlockLogModel" "inDigest" "[J") (by decide +kernel)) (fun _ h9 => h9) rfl dX9_layIn_62 ?_
          refine lv_iload_n hx hb dX9_layIn_65 rfl (lv_at hl 2 rfl) ?_
          refine lv_aload_n hx hb dX9_layIn_66 rfl (lv_at hl 1 rfl) ?_
          refine lv_iconst (v := 3) hx hb dX9_layIn_67 (by decide) ?_
          refine lv_bipush (v := 17) hx hb dX9_layIn_68 (by decide) ?_
          refine vp_callSl (va_Run.run (va_runV (As := [.int (3 : Int32), .int (17 : Int32)]) (rest := [.int p0, .ref (c 36)]) ⟨hx, hb, hml, hown, hts⟩ (v_X9_freshSum l dC dI o c kc st lg (rU ai 14 a14_14) al (3 : Int32) (17 : Int32) (by omega) (by omega)) (cwV 2 hts gX9_layIn_X9_freshSum rfl rfl rfl (by decide +kernel) ⟨Nat.le_of_ble_eq_true rfl, Nat.le_of_ble_eq_true rfl⟩) ⟨fun a U g mk q => by obtain ⟨q0, qP, qK⟩ := q; exact ⟨q0, qP, va_K.moved (u := U) (U := U.calling g mk a) (Vm.Alike.refl U.vm) qK⟩, va_recv hK hP (ci := 11) (q := (RX9, TX9, 38)) rfl (q0 := 0) rfl, fun U hU hW => ⟨rfl, by rw [hU]; exact hP, va_K.moved hW.alike hK⟩⟩ rfl rfl hl.1 rfl (lv_room (Nat.le_of_ble_eq_true rfl)) dX9_layIn_70 ⟨Nat.le_of_ble_eq_true rfl, Nat.le_of_ble_eq_true rfl⟩)) (fun r_10 er_10 => ?_)
          refine va_last (f := al 36) hx hb hK hP (rw_D hD) hS 16 15 rfl rfl (iv_in (i := p0) (by omega) (by omega)) dX9_layIn_73 (fun H locs hP _ hS => ?_)
          have hP : va_P (dC, dI) vwCl (rw_W o c kc st lg (rU ai 14 a14_14) (rU al 36 (vp_updL (al 36) p0.toNatClampNeg r_10))) H := hP
          generalize hU_inDigest : vp_updL (al 36) p0.toNatClampNeg r_10 = g_11 at hP
          clear hU_inDigest
          refine lv_aload_n hx hb dX9_layIn_74 rfl (lv_at hl 1 rfl) ?_
          refine lv_bipush (v := 17) hx hb dX9_layIn_75 (by decide) ?_
          refine lv_aload_n hx hb dX9_layIn_77 rfl (lv_at hl 1 rfl) ?_
          refine va_get (D := (dC, dI)) (ci := 11) (v := .ref (c 36)) (C := RX9) (T := TX9) (N := 38) hx hb hts hin9 hown hK hP 0 rfl rfl 36 (by decide) (hts (.fieldLink RX9 58 "BlockLogModel" "inDigest" "[J") (by decide +kernel)) (fun _ h9 => h9) rfl dX9_layIn_78 ?_
          refine lv_iload_n hx hb dX9_layIn_81 rfl (lv_at hl 2 rfl) ?_
          refine va_lald (f := g_11) hx hb hK hP 16 15 rfl rfl (iv_in (i := p0) (by omega) (by omega)) dX9_layIn_82 ?_
          refine lv_topl (fun w_12 ew_12 => ?_)
          clear ew_12
          refine lv_bipush (v := 8) hx hb dX9_layIn_83 (by decide) ?_
          have hFc := vfree (rw_D hD : va_D A (rw_W o c kc st lg (rU ai 14 a14_14) (rU al 36 g_11))) hS hA
          refine va_callv (va_runV (As := [.int (17 : Int32), .long w_12, .int (8 : Int32)]) (rest := []) ⟨hx, hb, hml, hown, hts⟩ (v_X9_put l dC dI o c kc st lg (rU ai 14 a14_14) (rU al 36 g_11) (17 : Int32) w_12 (8 : Int32) _ (by omega) (by omega) (by omega)) (cwV 3 hts gX9_layIn_X9_put rfl rfl rfl (by decide +kernel) ⟨Nat.le_of_ble_eq_true rfl, Nat.le_of_ble_eq_true rfl⟩) ⟨fun a U g mk q => by obtain ⟨q0, q1, qP, qK, qD⟩ := q; exact ⟨q0, q1, qP, va_K.moved (u := U) (U := U.calling g mk a) (Vm.Alike.refl U.vm) qK, qD⟩, va_recv hK hP (ci := 11) (q := (RX9, TX9, 38)) rfl (q0 := 0) rfl, fun U hU hW => ⟨rfl, by rw [hU], by rw [hU]; exact hP, va_K.moved hW.alike hK, rw_D (hD.weaken (fun _ _ _ _ => trivial))⟩⟩ rfl rfl hl.1 rfl (lv_room (Nat.le_of_ble_eq_true rfl)) dX9_layIn_85 ⟨Nat.le_of_ble_eq_true rfl, Nat.le_of_ble_eq_true rfl⟩) hS (fun q _ h => hFc q h) hFc (fun ur_13 t H1 locs ht hvm er_13 hB hz1 hk1 hS => ?_)
          obtain ⟨f14_13, hP1⟩ := hB
          rw [ht] at hP1
          clear hFc hz1 hk1 hvm hP
          subst ht
          have hP := hP1
          clear hP1
          generalize t.heap = H at hP hS ⊢
          have hP : va_P (dC, dI) vwCl (rw_W o c kc st lg (rU ai 14 f14_13) (rU al 36 g_11)) H := hP
          refine lv_aload_n hx hb dX9_layIn_88 rfl (lv_at hl 1 rfl) ?_
          refine va_get (D := (dC, dI)) (ci := 11) (v := .ref (c 14)) (C := RX9) (T := TX9) (N := 38) hx hb hts hin9 hown hK hP 0 rfl rfl 14 (by decide) (hts (.fieldLink RX9 24 "BlockLogModel" "fresh" "[I") (by decide +kernel)) (fun _ h9 => h9) rfl dX9_layIn_89 ?_
          refine lv_bipush (v := 25) hx hb dX9_layIn_92 (by decide) ?_
          refine lv_sipush (v := 165) hx hb dX9_layIn_94 (by decide) ?_
          refine va_iast (f := f14_13) hx hb hK hP (rw_D hD) hS 5 4 rfl rfl (iv_in (i := (25 : Int32)) (by omega) (by omega)) dX9_layIn_97 (fun H locs hP _ hS => ?_)
          have hP : va_P (dC, dI) vwCl (rw_W o c kc st lg (rU ai 14 (upd f14_13 (25 : Int32).toNatClampNeg (165 : Int32))) (rU al 36 g_11)) H := hP
          generalize hU_fresh : upd f14_13 (25 : Int32).toNatClampNeg (165 : Int32) = g_14 at hP
          clear hU_fresh
          exact W.vret hx hb hr (fun t ht hW => ⟨⟨(), rfl, trivial, g_14, g_11, by rw [ht]; exact hP⟩, hS.F ht⟩) hS.2.2 dX9_layIn_98
        · skip
          have ic_9 := iv_nle c_9
          refine lv_aload_n hx hb dX9_layIn_20 rfl (lv_at hl 1 rfl) ?_
          refine va_get (D := (dC, dI)) (ci := 11) (v := .ref (c 14)) (C := RX9) (T := TX9) (N := 38) hx hb hts hin9 hown hK hP 0 rfl rfl 14 (by decide) (hts (.fieldLink RX9 24 "BlockLogModel" "fresh" "[I") (by decide +kernel)) (fun _ h9 => h9) rfl dX9_layIn_21 ?_
          refine lv_iconst (v := 1) hx hb dX9_layIn_24 (by decide) ?_
          refine lv_iload_n hx hb dX9_layIn_25 rfl (lv_at hl 0 rfl) ?_
          refine lv_iadd hx hb dX9_layIn_26 ?_
          refine lv_topi (fun v_15 ev_15 => ?_)
          have rg1 := iv_rng l2_14
          have hv_15 : v_15.toInt = 1 + l2_14.toInt := by rw [ev_15]; exact (iv_add (by omega) (by omega)).trans (by omega)
          clear ev_15
          refine lv_iload_n hx hb dX9_layIn_27 rfl (lv_at hl 0 rfl) ?_
          refine lv_aload_n hx hb dX9_layIn_28 rfl (lv_at hl 1 rfl) ?_
          refine va_get (D := (dC, dI)) (ci := 11) (v := .ref (c 35)) (C := RX9) (T := TX9) (N := 38) hx hb hts hin9 hown hK hP 0 rfl rfl 35 (by decide) (hts (.fieldLink RX9 55 "BlockLogModel" "inSize" "[I") (by decide +kernel)) (fun _ h9 => h9) rfl dX9_layIn_29 ?_
          refine lv_iload_n hx hb dX9_layIn_32 rfl (lv_at hl 2 rfl) ?_
          refine va_iald (f := ai 35) hx hb hK hP 15 14 rfl rfl (iv_in (i := p0) (by omega) (by omega)) dX9_layIn_33 ?_
          refine lv_topi (fun v_16 ev_16 => ?_)
          have k_17 : 0 ≤ v_16.toInt ∧ v_16.toInt ≤ 255 := aR_get hR35 (by omega) (by omega) ev_16
          have hX_inSize := ev_16
          have k_18 : v_16.toInt = ((ai 35) p0.toNatClampNeg).toInt := by rw [ev_16]
          clear ev_16
          refine lv_icmp_ge (tgt := 53) hx hb dX9_layIn_34 (by decide) (fun c_19 => ?_) (fun c_19 => ?_)
          · skip
            have ic_19 := iv_le c_19
            refine lv_iconst (v := 0) hx hb dX9_layIn_53 (by decide) ?_
            refine va_iast (f := a14_14) hx hb hK hP (rw_D hD) hS 5 4 rfl rfl (iv_in (i := v_15) (by omega) (by omega)) dX9_layIn_54 (fun H locs hP _ hS => ?_)
            have hP : va_P (dC, dI) vwCl (rw_W o c kc st lg (rU ai 14 (upd a14_14 v_15.toNatClampNeg (0 : Int32))) al) H := hP
            generalize hU_fresh : upd a14_14 v_15.toNatClampNeg (0 : Int32) = g_20 at hP
            clear hU_fresh
            obtain ⟨x_21, ex_21⟩ : ∃ z : Int32, z = l2_14 + (1) := ⟨_, rfl⟩
            refine lv_iinc (v := x_21) (lv' := [(2, .int x_21), (0, .ref o), (1, .int p0)]) hx hb dX9_layIn_55 hl (k := 0) rfl (by rw [ex_21]; rfl) (by decide) rfl (fun ls hl => ?_)
            have hx_21 : x_21.toInt = l2_14.toInt + (1) := by rw [ex_21]; exact (iv_add (by omega) (by omega)).trans (by omega)
            clear ex_21
            refine lv_goto (tgt := 14) hx hb dX9_layIn_58 (by decide) ?_
            exact ih14 x_21 g_20 _ _ _ (by omega) (by omega) (by omega) hP hS (lv_sub hl [0, 1, 2] rfl)
          · skip
            have ic_19 := iv_nle c_19
            refine lv_aload_n hx hb dX9_layIn_37 rfl (lv_at hl 1 rfl) ?_
            refine va_get (D := (dC, dI)) (ci := 11) (v := .ref (c 8)) (C := RX9) (T := TX9) (N := 38) hx hb hts hin9 hown hK hP 0 rfl rfl 8 (by decide) (hts (.fieldLink RX9 14 "BlockLogModel" "tape" "[I") (by decide +kernel)) (fun _ h9 => h9) rfl dX9_layIn_38 ?_
            refine lv_aload_n hx hb dX9_layIn_41 rfl (lv_at hl 1 rfl) ?_
            refine va_get (D := (dC, dI)) (ci := 11) (v := .ref (c 34)) (C := RX9) (T := TX9) (N := 38) hx hb hts hin9 hown hK hP 0 rfl rfl 34 (by decide) (hts (.fieldLink RX9 52 "BlockLogModel" "inAt" "[I") (by decide +kernel)) (fun _ h9 => h9) rfl dX9_layIn_42 ?_
            refine lv_iload_n hx hb dX9_layIn_45 rfl (lv_at hl 2 rfl) ?_
            refine va_iald (f := ai 34) hx hb hK hP 14 13 rfl rfl (iv_in (i := p0) (by omega) (by omega)) dX9_layIn_46 ?_
            refine lv_topi (fun v_22 ev_22 => ?_)
            have hX_inAt := ev_22
            have k_23 : v_22.toInt = ((ai 34) p0.toNatClampNeg).toInt := by rw [ev_22]
            clear ev_22
            refine lv_iload_n hx hb dX9_layIn_47 rfl (lv_at hl 0 rfl) ?_
            refine lv_iadd hx hb dX9_layIn_48 ?_
            refine lv_topi (fun v_24 ev_24 => ?_)
            have rg2 := iv_rng v_22
            have hv_24 : v_24.toInt = v_22.toInt + l2_14.toInt := by rw [ev_24]; exact (iv_add (by omega) (by omega)).trans (by omega)
            clear ev_24
            refine va_iald (f := ai 8) hx hb hK hP 2 1 rfl rfl (iv_in (i := v_24) (by omega) (by omega)) dX9_layIn_49 ?_
            refine lv_topi (fun v_25 ev_25 => ?_)
            have k_26 : 0 ≤ v_25.toInt ∧ v_25.toInt ≤ 255 := aR_get hR8 (by omega) (by omega) ev_25
            clear ev_25
            refine lv_goto (tgt := 54) hx hb dX9_layIn_50 (by decide) ?_
            refine va_iast (f := a14_14) hx hb hK hP (rw_D hD) hS 5 4 rfl rfl (iv_in (i := v_15) (by omega) (by omega)) dX9_layIn_54 (fun H locs hP _ hS => ?_)
            have hP : va_P (dC, dI) vwCl (rw_W o c kc st lg (rU ai 14 (upd a14_14 v_15.toNatClampNeg v_25)) al) H := hP
            generalize hU_fresh : upd a14_14 v_15.toNatClampNeg v_25 = g_27 at hP
            clear hU_fresh
            obtain ⟨x_28, ex_28⟩ : ∃ z : Int32, z = l2_14 + (1) := ⟨_, rfl⟩
            refine lv_iinc (v := x_28) (lv' := [(2, .int x_28), (0, .ref o), (1, .int p0)]) hx hb dX9_layIn_55 hl (k := 0) rfl (by rw [ex_28]; rfl) (by decide) rfl (fun ls hl => ?_)
            have hx_28 : x_28.toInt = l2_14.toInt + (1) := by rw [ex_28]; exact (iv_add (by omega) (by omega)).trans (by omega)
            clear ex_28
            refine lv_goto (tgt := 14) hx hb dX9_layIn_58 (by decide) ?_
            exact ih14 x_28 g_27 _ _ _ (by omega) (by omega) (by omega) hP hS (lv_sub hl [0, 1, 2] rfl)
    exact loop14 ((16 - 0 : Int).toNat + 1) (0 : Int32) g_8 _ _ _ (by omega) (by omega) (by omega) hP hS (lv_sub hl [0, 1, 2] rfl)
  exact main s.heap [] hP hS

set_option maxHeartbeats 4000000 in
set_option maxRecDepth 100000 in
theorem v_X9_isSameIn (l : Launch) (dC : Nat → ClassId) (dI : Nat → Nat → Nat) (o : Nat) (c : Nat → Nat) (kc : Nat → ClassId) (st : Nat → Int32) (lg : Nat → Int64) (ai : Nat → Nat → Int32) (al : Nat → Nat → Int64) (p0 : Int32) (p1 : Int32) (hf37a : 0 ≤ (st 37).toInt) (hf37b : (st 37).toInt ≤ 255) (hq0 : 0 ≤ p0.toInt) (hq1 : p0.toInt < (st 37).toInt) (hq2 : 0 ≤ p1.toInt) (hq3 : p1.toInt < (st 37).toInt) (hq4 : (st 37).toInt ≤ 16) (hR8 : aR (ai 8) 400 (0) 255) (hR35 : aR (ai 35) 16 (0) 255) (hin : inI (ai 34) (ai 35) (st 37)) : Met l yX9_isSameIn wsX9_isSameIn ({ frames := 0, cells := 0, slots := 0, locals := 0 }) (va_Pc [.ref o, .int p0, .int p1] (fun U => va_P (dC, dI) vwCl (rw_W o c kc st lg ai al) U.heap ∧ va_K (dC, dI) vwCl (rw_T kc) U)) (vp_Si (fun r => (0 ≤ r.toInt) ∧ (r.toInt ≤ 1))) 0 0 (fun _ => False) := by
  refine Met.ofW (cc := cX9_isSameIn) (maxL := 4) (ret := (some .boolean)) (by decide) rfl ?_
  intro p e s m args below meth cM s₁ B hml hv
  obtain ⟨rfl, hP, hK⟩ := hv
  have hx := B.exec
  have hb := B.bytes
  have hr := B.returns
  have hts := atoms_spec (ws := wsX9_isSameIn) B.pre
  have hown : s.vm.findClass RX9 = some m.cls := findClass_of_methodNamed B.named
  have hl := lv_entry ([.ref o, .int p0, .int p1]) (n := 4) (Nat.le_of_ble_eq_true rfl)
  rw [lg_entry_eq]
  generalize (lg_sl ([.ref o, .int p0, .int p1]) ++ List.replicate (4 - (lg_sl ([.ref o, .int p0, .int p1])).length) Slot.unset).toArray = ls at hl ⊢
  have hl : lv_has ls 4 [(0, .ref o), (1, .int p0), (2, .int p1)] := hl
  have z_0 : (0 : Int32).toInt = 0 := by decide
  have z_1 : (1 : Int32).toInt = 1 := by decide
  have hin9 : ∀ w ∈ u_ws RX9 TX9 38, w ∈ wsX9_isSameIn := by decide +kernel
  have k_1 : 0 ≤ ((ai 34) p0.toNatClampNeg).toInt := (inI_u hin (i := p0) (by omega) (by omega)).1
  have k_2 : 1 ≤ ((ai 35) p0.toNatClampNeg).toInt := (inI_u hin (i := p0) (by omega) (by omega)).2.1
  have k_3 : ((ai 35) p0.toNatClampNeg).toInt ≤ 16 := (inI_u hin (i := p0) (by omega) (by omega)).2.2.1
  have k_4 : ((ai 34) p0.toNatClampNeg).toInt + ((ai 35) p0.toNatClampNeg).toInt ≤ 392 := (inI_u hin (i := p0) (by omega) (by omega)).2.2.2
  have k_5 : 0 ≤ ((ai 34) p1.toNatClampNeg).toInt := (inI_u hin (i := p1) (by omega) (by omega)).1
  have k_6 : 1 ≤ ((ai 35) p1.toNatClampNeg).toInt := (inI_u hin (i := p1) (by omega) (by omega)).2.1
  have k_7 : ((ai 35) p1.toNatClampNeg).toInt ≤ 16 := (inI_u hin (i := p1) (by omega) (by omega)).2.2.1
  have k_8 : ((ai 34) p1.toNatClampNeg).toInt + ((ai 35) p1.toNatClampNeg).toInt ≤ 392 := (inI_u hin (i := p1) (by omega) (by omega)).2.2.2
  refine lv_aload_n hx hb dX9_isSameIn_0 rfl (lv_at hl 0 rfl) ?_
  refine va_get (D := (dC, dI)) (ci := 11) (v := .ref (c 35)) (C := RX9) (T := TX9) (N := 38) hx hb hts hin9 hown hK hP 0 rfl rfl 35 (by decide) (hts (.fieldLink RX9 55 "BlockLogModel" "inSize" "[I") (by decide +kernel)) (fun _ h9 => h9) rfl dX9_isSameIn_1 ?_
  refine lv_iload_n hx hb dX9_isSameIn_4 rfl (lv_at hl 1 rfl) ?_
  refine va_iald (f := ai 35) hx hb hK hP 15 14 rfl rfl (iv_in (i := p0) (by omega) (by omega)) dX9_isSameIn_5 ?_
  refine lv_topi (fun v_9 ev_9 => ?_)
  have k_10 : 0 ≤ v_9.toInt ∧ v_9.toInt ≤ 255 := aR_get hR35 (by omega) (by omega) ev_9
  have hX_inSize := ev_9
  have k_11 : v_9.toInt = ((ai 35) p0.toNatClampNeg).toInt := by rw [ev_9]
  clear ev_9
  refine lv_aload_n hx hb dX9_isSameIn_6 rfl (lv_at hl 0 rfl) ?_
  refine va_get (D := (dC, dI)) (ci := 11) (v := .ref (c 35)) (C := RX9) (T := TX9) (N := 38) hx hb hts hin9 hown hK hP 0 rfl rfl 35 (by decide) (hts (.fieldLink RX9 55 "BlockLogModel" "inSize" "[I") (by decide +kernel)) (fun _ h9 => h9) rfl dX9_isSameIn_7 ?_
  refine lv_iload_n hx hb dX9_isSameIn_10 rfl (lv_at hl 2 rfl) ?_
  refine va_iald (f := ai 35) hx hb hK hP 15 14 rfl rfl (iv_in (i := p1) (by omega) (by omega)) dX9_isSameIn_11 ?_
  refine lv_topi (fun v_12 ev_12 => ?_)
  have k_13 : 0 ≤ v_12.toInt ∧ v_12.toInt ≤ 255 := aR_get hR35 (by omega) (by omega) ev_12
  have hX_inSize := ev_12
  have k_14 : v_12.toInt = ((ai 35) p1.toNatClampNeg).toInt := by rw [ev_12]
  clear ev_12
  refine lv_icmp_eq (tgt := 17) hx hb dX9_isSameIn_12 (by decide) (fun c_15 => ?_) (fun c_15 => ?_)
  · skip
    have ic_15 := iv_eq c_15
    refine lv_iconst (v := 0) hx hb dX9_isSameIn_17 (by decide) ?_
    refine lv_istore_n (lv' := [(3, .int (0 : Int32)), (0, .ref o), (1, .int p0), (2, .int p1)]) hx hb dX9_isSameIn_18 rfl hl (by decide) rfl (fun ls hl => ?_)
    have loop19 : ∀ (n : Nat) (l3_19 : Int32) (ls : Array Slot), (0 ≤ l3_19.toInt) → (l3_19.toInt ≤ ((ai 35) p0.toNatClampNeg).toInt) → (((ai 35) p0.toNatClampNeg).toInt - l3_19.toInt : Int).toNat < n → lv_has ls 4 [(3, .int l3_19), (0, .ref o), (1, .int p0), (2, .int p1)] → W p l e (headSpec wsX9_isSameIn ({ frames := 0, cells := 0, slots := 0, locals := 0 })).room s m ([.ref o, .int p0, .int p1] : List Value).toArray below meth cM s.heap [] 0 0 (MQ below (vp_Si (fun r => (0 ≤ r.toInt) ∧ (r.toInt ≤ 1))) ([.ref o, .int p0, .int p1] : List Value).toArray s 0 0 (fun _ => False)) (F0 m 19 ls []) := by
      intro n
      induction n with
      | zero => intro l3_19 ls if0_19 if1_19 hm; exact absurd hm (Nat.not_lt_zero _)
      | succ n ih19 =>
        intro l3_19 ls if0_19 if1_19 hm19 hl
        refine lv_iload_n hx hb dX9_isSameIn_19 rfl (lv_at hl 0 rfl) ?_
        refine lv_aload_n hx hb dX9_isSameIn_20 rfl (lv_at hl 1 rfl) ?_
        refine va_get (D := (dC, dI)) (ci := 11) (v := .ref (c 35)) (C := RX9) (T := TX9) (N := 38) hx hb hts hin9 hown hK hP 0 rfl rfl 35 (by decide) (hts (.fieldLink RX9 55 "BlockLogModel" "inSize" "[I") (by decide +kernel)) (fun _ h9 => h9) rfl dX9_isSameIn_21 ?_
        refine lv_iload_n hx hb dX9_isSameIn_24 rfl (lv_at hl 2 rfl) ?_
        refine va_iald (f := ai 35) hx hb hK hP 15 14 rfl rfl (iv_in (i := p0) (by omega) (by omega)) dX9_isSameIn_25 ?_
        refine lv_topi (fun v_16 ev_16 => ?_)
        have k_17 : 0 ≤ v_16.toInt ∧ v_16.toInt ≤ 255 := aR_get hR35 (by omega) (by omega) ev_16
        have hX_inSize := ev_16
        have k_18 : v_16.toInt = ((ai 35) p0.toNatClampNeg).toInt := by rw [ev_16]
        clear ev_16
        refine lv_icmp_ge (tgt := 66) hx hb dX9_isSameIn_26 (by decide) (fun c_19 => ?_) (fun c_19 => ?_)
        · skip
          have ic_19 := iv_le c_19
          refine lv_iconst (v := 1) hx hb dX9_isSameIn_66 (by decide) ?_
          exact W.zret hx hb hr rfl (fun t ht hW => ⟨_, rfl, ⟨(by omega), (by omega)⟩, ht⟩) (fun q h => by cases h) dX9_isSameIn_67
        · skip
          have ic_19 := iv_nle c_19
          refine lv_aload_n hx hb dX9_isSameIn_29 rfl (lv_at hl 1 rfl) ?_
          refine va_get (D := (dC, dI)) (ci := 11) (v := .ref (c 8)) (C := RX9) (T := TX9) (N := 38) hx hb hts hin9 hown hK hP 0 rfl rfl 8 (by decide) (hts (.fieldLink RX9 14 "BlockLogModel" "tape" "[I") (by decide +kernel)) (fun _ h9 => h9) rfl dX9_isSameIn_30 ?_
          refine lv_aload_n hx hb dX9_isSameIn_33 rfl (lv_at hl 1 rfl) ?_
          refine va_get (D := (dC, dI)) (ci := 11) (v := .ref (c 34)) (C := RX9) (T := TX9) (N := 38) hx hb hts hin9 hown hK hP 0 rfl rfl 34 (by decide) (hts (.fieldLink RX9 52 "BlockLogModel" "inAt" "[I") (by decide +kernel)) (fun _ h9 => h9) rfl dX9_isSameIn_34 ?_
          refine lv_iload_n hx hb dX9_isSameIn_37 rfl (lv_at hl 2 rfl) ?_
          refine va_iald (f := ai 34) hx hb hK hP 14 13 rfl rfl (iv_in (i := p0) (by omega) (by omega)) dX9_isSameIn_38 ?_
          refine lv_topi (fun v_20 ev_20 => ?_)
          have hX_inAt := ev_20
          have k_21 : v_20.toInt = ((ai 34) p0.toNatClampNeg).toInt := by rw [ev_20]
          clear ev_20
          refine lv_iload_n hx hb dX9_isSameIn_39 rfl (lv_at hl 0 rfl) ?_
          refine lv_iadd hx hb dX9_isSameIn_40 ?_
          refine lv_topi (fun v_22 ev_22 => ?_)
          have rg1 := iv_rng v_20
          have rg2 := iv_rng l3_19
          have hv_22 : v_22.toInt = v_20.toInt + l3_19.toInt := by rw [ev_22]; exact (iv_add (by omega) (by omega)).trans (by omega)
          clear ev_22
          refine va_iald (f := ai 8) hx hb hK hP 2 1 rfl rfl (iv_in (i := v_22) (by omega) (by omega)) dX9_isSameIn_41 ?_
          refine lv_topi (fun v_23 ev_23 => ?_)
          have k_24 : 0 ≤ v_23.toInt ∧ v_23.toInt ≤ 255 := aR_get hR8 (by omega) (by omega) ev_23
          clear ev_23
          refine lv_aload_n hx hb dX9_isSameIn_42 rfl (lv_at hl 1 rfl) ?_
          refine va_get (D := (dC, dI)) (ci := 11) (v := .ref (c 8)) (C := RX9) (T := TX9) (N := 38) hx hb hts hin9 hown hK hP 0 rfl rfl 8 (by decide) (hts (.fieldLink RX9 14 "BlockLogModel" "tape" "[I") (by decide +kernel)) (fun _ h9 => h9) rfl dX9_isSameIn_43 ?_
          refine lv_aload_n hx hb dX9_isSameIn_46 rfl (lv_at hl 1 rfl) ?_
          refine va_get (D := (dC, dI)) (ci := 11) (v := .ref (c 34)) (C := RX9) (T := TX9) (N := 38) hx hb hts hin9 hown hK hP 0 rfl rfl 34 (by decide) (hts (.fieldLink RX9 52 "BlockLogModel" "inAt" "[I") (by decide +kernel)) (fun _ h9 => h9) rfl dX9_isSameIn_47 ?_
          refine lv_iload_n hx hb dX9_isSameIn_50 rfl (lv_at hl 3 rfl) ?_
          refine va_iald (f := ai 34) hx hb hK hP 14 13 rfl rfl (iv_in (i := p1) (by omega) (by omega)) dX9_isSameIn_51 ?_
          refine lv_topi (fun v_25 ev_25 => ?_)
          have hX_inAt := ev_25
          have k_26 : v_25.toInt = ((ai 34) p1.toNatClampNeg).toInt := by rw [ev_25]
          clear ev_25
          refine lv_iload_n hx hb dX9_isSameIn_52 rfl (lv_at hl 0 rfl) ?_
          refine lv_iadd hx hb dX9_isSameIn_53 ?_
          refine lv_topi (fun v_27 ev_27 => ?_)
          have rg3 := iv_rng v_25
          have hv_27 : v_27.toInt = v_25.toInt + l3_19.toInt := by rw [ev_27]; exact (iv_add (by omega) (by omega)).trans (by omega)
          clear ev_27
          refine va_iald (f := ai 8) hx hb hK hP 2 1 rfl rfl (iv_in (i := v_27) (by omega) (by omega)) dX9_isSameIn_54 ?_
          refine lv_topi (fun v_28 ev_28 => ?_)
          have k_29 : 0 ≤ v_28.toInt ∧ v_28.toInt ≤ 255 := aR_get hR8 (by omega) (by omega) ev_28
          clear ev_28
          refine lv_icmp_eq (tgt := 60) hx hb dX9_isSameIn_55 (by decide) (fun c_30 => ?_) (fun c_30 => ?_)
          · skip
            have ic_30 := iv_eq c_30
            obtain ⟨x_31, ex_31⟩ : ∃ z : Int32, z = l3_19 + (1) := ⟨_, rfl⟩
            refine lv_iinc (v := x_31) (lv' := [(3, .int x_31), (0, .ref o), (1, .int p0), (2, .int p1)]) hx hb dX9_isSameIn_60 hl (k := 0) rfl (by rw [ex_31]; rfl) (by decide) rfl (fun ls hl => ?_)
            have hx_31 : x_31.toInt = l3_19.toInt + (1) := by rw [ex_31]; exact (iv_add (by omega) (by omega)).trans (by omega)
            clear ex_31
            refine lv_goto (tgt := 19) hx hb dX9_isSameIn_63 (by decide) ?_
            exact ih19 x_31 _ (by omega) (by omega) (by omega) (lv_sub hl [0, 1, 2, 3] rfl)
          · skip
            have ic_30 := iv_ne c_30
            refine lv_iconst (v := 0) hx hb dX9_isSameIn_58 (by decide) ?_
            exact W.zret hx hb hr rfl (fun t ht hW => ⟨_, rfl, ⟨(by omega), (by omega)⟩, ht⟩) (fun q h => by cases h) dX9_isSameIn_59
    exact loop19 ((((ai 35) p0.toNatClampNeg).toInt - 0 : Int).toNat + 1) (0 : Int32) _ (by omega) (by omega) (by omega) (lv_sub hl [0, 1, 2, 3] rfl)
  · skip
    have ic_15 := iv_ne c_15
    refine lv_iconst (v := 0) hx hb dX9_isSameIn_15 (by decide) ?_
    exact W.zret hx hb hr rfl (fun t ht hW => ⟨_, rfl, ⟨(by omega), (by omega)⟩, ht⟩) (fun q h => by cases h) dX9_isSameIn_16
