set_option maxHeartbeats 4000000 in
set_option maxRecDepth 100000 in
theorem v_X9_block (l : Launch) (dC : Nat → ClassId) (dI : Nat → Nat → Nat) (o : Nat) (c : Nat → Nat) (kc : Nat → ClassId) (st : Nat → Int32) (lg : Nat → Int64) (ai : Nat → Nat → Int32) (al : Nat → Nat → Int64) (p0 : Int32) (p1 : Int64) (sz : Nat) (hf3a : 0 ≤ (st 3).toInt) (hf3b : (st 3).toInt ≤ 1) (hf6a : 0 ≤ (st 6).toInt) (hf6b : (st 6).toInt ≤ 1) (hf7a : 0 ≤ (st 7).toInt) (hf7b : (st 7).toInt ≤ 1) (hf12a : 0 ≤ (st 12).toInt) (hf12b : (st 12).toInt ≤ 8) (hf15a : 0 ≤ (st 15).toInt) (hf15b : (st 15).toInt ≤ 128) (hf16a : 0 ≤ (st 16).toInt) (hf16b : (st 16).toInt ≤ 128) (hf17a : 0 ≤ (st 17).toInt) (hf17b : (st 17).toInt ≤ 1) (hf21a : -1 ≤ (st 21).toInt) (hf21b : (st 21).toInt ≤ 127) (hf22a : 0 ≤ (st 22).toInt) (hf22b : (st 22).toInt ≤ 1000000) (hf24a : 0 ≤ (st 24).toInt) (hf24b : (st 24).toInt ≤ 1) (hf26a : 0 ≤ (st 26).toInt) (hf26b : (st 26).toInt ≤ 2000000) (hR25 : aR (ai 25) 130 (0) 127) : Met l yX9_block wsX9_block ({ frames := 7, cells := 0, slots := 0, locals := 159 }) (va_Pc [.ref o, .int p0, .long p1] (fun U => U.heap.size = sz ∧ va_P (dC, dI) vwCl (rw_W o c kc st lg ai al) U.heap ∧ va_K (dC, dI) vwCl (rw_T kc) U ∧ va_D (fun _ => True) (rw_W o c kc st lg ai al))) (va_Qi (fun r (u : Int32) => r = u) (fun u t => ∃ (x3 : Int32) (x4 : Int32) (x5 : Int32) (x6 : Int32) (x12 : Int32) (x13 : Int32) (x15 : Int32) (x16 : Int32) (x17 : Int32) (x21 : Int32) (x22 : Int32) (x24 : Int32) (x26 : Int32) (y23 : Int64) (y27 : Int64) (f0 : Nat → Int32) (f14 : Nat → Int32) (f19 : Nat → Int32) (f20 : Nat → Int32) (f25 : Nat → Int32) (g18 : Nat → Int64), (0 ≤ x3.toInt) ∧ (x3.toInt ≤ 1) ∧ (0 ≤ x6.toInt) ∧ (x6.toInt ≤ 1) ∧ (0 ≤ x12.toInt) ∧ (x12.toInt ≤ 8) ∧ (0 ≤ x15.toInt) ∧ (x15.toInt ≤ 128) ∧ (0 ≤ x16.toInt) ∧ (x16.toInt ≤ 128) ∧ (0 ≤ x17.toInt) ∧ (x17.toInt ≤ 1) ∧ (-1 ≤ x21.toInt) ∧ (x21.toInt ≤ 127) ∧ (0 ≤ x22.toInt) ∧ (x22.toInt ≤ 1000000) ∧ (0 ≤ x24.toInt) ∧ (x24.toInt ≤ 1) ∧ (0 ≤ x26.toInt) ∧ (x26.toInt ≤ 2000000) ∧ (aR f25 130 (0) 127) ∧ va_P (dC, dI) vwCl (rw_W o c kc (rU (rU (rU (rU (rU (rU (rU (rU (rU (rU (rU (rU (rU st 3 x3) 4 x4) 5 x5) 6 x6) 12 x12) 13 x13) 15 x15) 16 x16) 17 x17) 21 x21) 22 x22) 24 x24) 26 x26) (rU (rU lg 23 y23) 27 y27) (rU (rU (rU (rU (rU ai 0 f0) 14 f14) 19 f19) 20 f20) 25 f25) (rU al 18 g18)) t.heap) (va_A (rw_W o c kc st lg ai al) sz)) 0 0 (va_A (rw_W o c kc st lg ai al) sz) := by
  refine Met.ofW (cc := cX9_block) (maxL := 15) (ret := (some .int)) (by decide) rfl ?_
  intro p e s m args below meth cM s₁ B hml hv
  obtain ⟨rfl, hsz, hP, hK, hD0⟩ := hv
  have hx := B.exec
  have hb := B.bytes
  have hr := B.returns
  have hts := atoms_spec (ws := wsX9_block) B.pre
  have hown : s.vm.findClass RX9 = some m.cls := findClass_of_methodNamed B.named
  subst hsz
  have hD := hD0.self (sz := s.heap.size)
  generalize hAe : va_A (rw_W o c kc st lg ai al) s.heap.size = A at hD ⊢
  have hA : ∀ q : Nat, s.heap.size ≤ q → A q := fun q h => by rw [← hAe]; exact Or.inr h
  have hS : va_S A s.heap s.heap [] := va_S.rf
  clear hAe hD0
  have hl := lv_entry ([.ref o, .int p0, .long p1]) (n := 15) (Nat.le_of_ble_eq_true rfl)
  rw [lg_entry_eq]
  generalize (lg_sl ([.ref o, .int p0, .long p1]) ++ List.replicate (15 - (lg_sl ([.ref o, .int p0, .long p1])).length) Slot.unset).toArray = ls at hl ⊢
  have hl : lv_has ls 15 [(0, .ref o), (1, .int p0), (2, .long p1)] := hl
  have z_m10 : (-10 : Int32).toInt = -10 := by decide
  have z_m6 : (-6 : Int32).toInt = -6 := by decide
  have z_m4 : (-4 : Int32).toInt = -4 := by decide
  have z_m3 : (-3 : Int32).toInt = -3 := by decide
  have z_m2 : (-2 : Int32).toInt = -2 := by decide
  have z_m1 : (-1 : Int32).toInt = -1 := by decide
  have z_0 : (0 : Int32).toInt = 0 := by decide
  have z_1 : (1 : Int32).toInt = 1 := by decide
  have z_2 : (2 : Int32).toInt = 2 := by decide
  have z_3 : (3 : Int32).toInt = 3 := by decide
  have z_4 : (4 : Int32).toInt = 4 := by decide
  have z_8 : (8 : Int32).toInt = 8 := by decide
  have z_32 : (32 : Int32).toInt = 32 := by decide
  have z_128 : (128 : Int32).toInt = 128 := by decide
  have z_1000000 : (1000000 : Int32).toInt = 1000000 := by decide
  have hin9 : ∀ w ∈ u_ws RX9 TX9 38, w ∈ wsX9_block := by decide +kernel
  have main : ∀ (H : Heap) (locs : List Loc), va_P (dC, dI) vwCl (rw_W o c kc st lg ai al) H → va_S A s.heap H locs → W p l e (headSpec wsX9_block ({ frames := 7, cells := 0, slots := 0, locals := 159 })).room s m ([.ref o, .int p0, .long p1] : List Value).toArray below meth cM H locs 0 0 (MQ below (va_Qi (fun r (u : Int32) => r = u) (fun u t => ∃ (x3 : Int32) (x4 : Int32) (x5 : Int32) (x6 : Int32) (x12 : Int32) (x13 : Int32) (x15 : Int32) (x16 : Int32) (x17 : Int32) (x21 : Int32) (x22 : Int32) (x24 : Int32) (x26 : Int32) (y23 : Int64) (y27 : Int64) (f0 : Nat → Int32) (f14 : Nat → Int32) (f19 : Nat → Int32) (f20 : Nat → Int32) (f25 : Nat → Int32) (g18 : Nat → Int64), (0 ≤ x3.toInt) ∧ (x3.toInt ≤ 1) ∧ (0 ≤ x6.toInt) ∧ (x6.toInt ≤ 1) ∧ (0 ≤ x12.toInt) ∧ (x12.toInt ≤ 8) ∧ (0 ≤ x15.toInt) ∧ (x15.toInt ≤ 128) ∧ (0 ≤ x16.toInt) ∧ (x16.toInt ≤ 128) ∧ (0 ≤ x17.toInt) ∧ (x17.toInt ≤ 1) ∧ (-1 ≤ x21.toInt) ∧ (x21.toInt ≤ 127) ∧ (0 ≤ x22.toInt) ∧ (x22.toInt ≤ 1000000) ∧ (0 ≤ x24.toInt) ∧ (x24.toInt ≤ 1) ∧ (0 ≤ x26.toInt) ∧ (x26.toInt ≤ 2000000) ∧ (aR f25 130 (0) 127) ∧ va_P (dC, dI) vwCl (rw_W o c kc (rU (rU (rU (rU (rU (rU (rU (rU (rU (rU (rU (rU (rU st 3 x3) 4 x4) 5 x5) 6 x6) 12 x12) 13 x13) 15 x15) 16 x16) 17 x17) 21 x21) 22 x22) 24 x24) 26 x26) (rU (rU lg 23 y23) 27 y27) (rU (rU (rU (rU (rU ai 0 f0) 14 f14) 19 f19) 20 f20) 25 f25) (rU al 18 g18)) t.heap) A) ([.ref o, .int p0, .long p1] : List Value).toArray s 0 0 A) (F0 m 0 ls []) := by
    intro H locs hP hS
    refine lv_aload_n hx hb dX9_block_0 rfl (lv_at hl 0 rfl) ?_
    have join1 : ∀ (jt_1 : Int32) (H : Heap) (locs : List Loc) (ls : Array Slot), (0 ≤ jt_1.toInt) → (jt_1.toInt ≤ 2) → (jt_1.toInt = 0 → (1 ≤ p0.toInt ∧ p0.toInt ≤ 1000000)) → va_P (dC, dI) vwCl (rw_W o c kc st lg ai al) H → va_S A s.heap H locs → lv_has ls 15 [(0, .ref o), (1, .int p0), (2, .long p1)] → W p l e (headSpec wsX9_block ({ frames := 7, cells := 0, slots := 0, locals := 159 })).room s m ([.ref o, .int p0, .long p1] : List Value).toArray below meth cM H locs 0 0 (MQ below (va_Qi (fun r (u : Int32) => r = u) (fun u t => ∃ (x3 : Int32) (x4 : Int32) (x5 : Int32) (x6 : Int32) (x12 : Int32) (x13 : Int32) (x15 : Int32) (x16 : Int32) (x17 : Int32) (x21 : Int32) (x22 : Int32) (x24 : Int32) (x26 : Int32) (y23 : Int64) (y27 : Int64) (f0 : Nat → Int32) (f14 : Nat → Int32) (f19 : Nat → Int32) (f20 : Nat → Int32) (f25 : Nat → Int32) (g18 : Nat → Int64), (0 ≤ x3.toInt) ∧ (x3.toInt ≤ 1) ∧ (0 ≤ x6.toInt) ∧ (x6.toInt ≤ 1) ∧ (0 ≤ x12.toInt) ∧ (x12.toInt ≤ 8) ∧ (0 ≤ x15.toInt) ∧ (x15.toInt ≤ 128) ∧ (0 ≤ x16.toInt) ∧ (x16.toInt ≤ 128) ∧ (0 ≤ x17.toInt) ∧ (x17.toInt ≤ 1) ∧ (-1 ≤ x21.toInt) ∧ (x21.toInt ≤ 127) ∧ (0 ≤ x22.toInt) ∧ (x22.toInt ≤ 1000000) ∧ (0 ≤ x24.toInt) ∧ (x24.toInt ≤ 1) ∧ (0 ≤ x26.toInt) ∧ (x26.toInt ≤ 2000000) ∧ (aR f25 130 (0) 127) ∧ va_P (dC, dI) vwCl (rw_W o c kc (rU (rU (rU (rU (rU (rU (rU (rU (rU (rU (rU (rU (rU st 3 x3) 4 x4) 5 x5) 6 x6) 12 x12) 13 x13) 15 x15) 16 x16) 17 x17) 21 x21) 22 x22) 24 x24) 26 x26) (rU (rU lg 23 y23) 27 y27) (rU (rU (rU (rU (rU ai 0 f0) 14 f14) 19 f19) 20 f20) 25 f25) (rU al 18 g18)) t.heap) A) ([.ref o, .int p0, .long p1] : List Value).toArray s 0 0 A) (F0 m 27 ls [.int jt_1, .ref o]) := by
      intro jt_1 H locs ls ij0_1 ij1_1 ij2_1 hP hS hl
      refine va_put (D := (dC, dI)) (ci := 11) (v := .int jt_1) (ty := .int) (C := RX9) (T := TX9) (N := 38) hx hb hts hin9 tyX9 tyX9_ok nmX9 hown hK hP (rw_D hD) hS 0 rfl rfl 13 (by decide) (hts (.fieldLink RX9 91 "BlockLogModel" "thrown" "I") (by decide +kernel)) (fun _ h9 => h9) rfl (by decide +kernel) rfl rfl (Nat.le_of_ble_eq_true rfl) dX9_block_27 (fun H locs hP _ hS => ?_)
      have hP : va_P (dC, dI) vwCl (rw_W o c kc (rU st 13 jt_1) lg ai al) H := hP
      refine lv_aload_n hx hb dX9_block_30 rfl (lv_at hl 0 rfl) ?_
      refine va_get (D := (dC, dI)) (ci := 11) (v := .int jt_1) (C := RX9) (T := TX9) (N := 38) hx hb hts hin9 hown hK hP 0 rfl rfl 13 (by decide) (hts (.fieldLink RX9 91 "BlockLogModel" "thrown" "I") (by decide +kernel)) (fun _ h9 => h9) rfl dX9_block_31 ?_
      refine lv_if_le (tgt := 39) hx hb dX9_block_34 (by decide) (fun c_1 => ?_) (fun c_1 => ?_)
      · skip
        have ic_1 := iv_le c_1
        refine lv_aload_n hx hb dX9_block_39 rfl (lv_at hl 0 rfl) ?_
        have hFc := vfree (rw_D hD : va_D A (rw_W o c kc (rU st 13 jt_1) lg ai al)) hS hA
        refine va_callv (va_runV (As := []) (rest := []) ⟨hx, hb, hml, hown, hts⟩ (v_X9_read l dC dI o c kc (rU st 13 jt_1) lg ai al  _ (show 0 ≤ (st 7).toInt by omega) (show (st 7).toInt ≤ 1 by omega) (show 0 ≤ (st 15).toInt by omega) (show (st 15).toInt ≤ 128 by omega) (show 0 ≤ (st 16).toInt by omega) (show (st 16).toInt ≤ 128 by omega) (show 0 ≤ (st 17).toInt by omega) (show (st 17).toInt ≤ 1 by omega) (show -1 ≤ (st 21).toInt by omega) (show (st 21).toInt ≤ 127 by omega) (show 0 ≤ (st 22).toInt by omega) (show (st 22).toInt ≤ 1000000 by omega) (show 0 ≤ (st 24).toInt by omega) (show (st 24).toInt ≤ 1 by omega) (show 0 ≤ (st 26).toInt by omega) (show (st 26).toInt ≤ 2000000 by omega) (show aR (ai 25) 130 (0) 127 from hR25)) (cwV 0 hts gX9_block_X9_read rfl rfl rfl (by decide +kernel) ⟨Nat.le_of_ble_eq_true rfl, Nat.le_of_ble_eq_true rfl⟩) ⟨fun a U g mk q => by obtain ⟨q0, q1, qP, qK, qD⟩ := q; exact ⟨q0, q1, qP, va_K.moved (u := U) (U := U.calling g mk a) (Vm.Alike.refl U.vm) qK, qD⟩, va_recv hK hP (ci := 11) (q := (RX9, TX9, 38)) rfl (q0 := 0) rfl, fun U hU hW => ⟨rfl, by rw [hU], by rw [hU]; exact hP, va_K.moved hW.alike hK, rw_D (hD.weaken (fun _ _ _ _ => trivial))⟩⟩ rfl rfl hl.1 rfl (lv_room (Nat.le_of_ble_eq_true rfl)) dX9_block_40 ⟨Nat.le_of_ble_eq_true rfl, Nat.le_of_ble_eq_true rfl⟩) hS (fun q _ h => hFc q h) hFc (fun ur_2 t H1 locs ht hvm er_2 hB hz1 hk1 hS => ?_)
        obtain ⟨x16_2, x17_2, x21_2, x22_2, x24_2, x26_2, y23_2, y27_2, f19_2, f20_2, f25_2, g18_2, k_3, k_4, k_5, k_6, k_7, k_8, k_9, k_10, k_11, k_12, k_13, k_14, k_15, k_16, k_17, k_18, k_19, hR25, hG, hC, hV, hBs, hP1⟩ := hB
        rw [ht] at hP1
        clear hFc hz1 hk1 hvm hP
        subst ht
        have hP := hP1
        clear hP1
        generalize t.heap = H at hP hS ⊢
        have hP : va_P (dC, dI) vwCl (rw_W o c kc (rU (rU (rU (rU (rU (rU (rU st 13 jt_1) 16 x16_2) 17 x17_2) 21 x21_2) 22 x22_2) 24 x24_2) 26 x26_2) (rU (rU lg 23 y23_2) 27 y27_2) (rU (rU (rU ai 19 f19_2) 20 f20_2) 25 f25_2) (rU al 18 g18_2)) H := hP
        have k_3 : x16_2.toInt = (st 15).toInt := k_3
        have k_4 : 0 ≤ x26_2.toInt - x22_2.toInt := k_4
        have k_5 : x26_2.toInt - x22_2.toInt ≤ 128 := k_5
        have k_6 : (x21_2.toInt = -1 ∨ (rK (ai 0) (st 7) x21_2).toInt = 1) := k_6
        have k_7 : x21_2.toInt < x16_2.toInt := k_7
        have k_8 : 0 ≤ x16_2.toInt := k_8
        have k_9 : x16_2.toInt ≤ 128 := k_9
        have k_10 : 0 ≤ x17_2.toInt := k_10
        have k_11 : x17_2.toInt ≤ 1 := k_11
        have k_12 : -1 ≤ x21_2.toInt := k_12
        have k_13 : x21_2.toInt ≤ 127 := k_13
        have k_14 : 0 ≤ x22_2.toInt := k_14
        have k_15 : x22_2.toInt ≤ 1000000 := k_15
        have k_16 : 0 ≤ x24_2.toInt := k_16
        have k_17 : x24_2.toInt ≤ 1 := k_17
        have k_18 : 0 ≤ x26_2.toInt := k_18
        have k_19 : x26_2.toInt ≤ 2000000 := k_19
        have hR25 : aR f25_2 130 (0) 127 := hR25
        have hG : gOK (ai 0) (st 7) x16_2 f19_2 := hG
        have hC : cOK (ai 0) (st 7) x16_2 f20_2 := hC
        have hV : vOK (ai 0) (st 7) x16_2 f25_2 (x26_2.toInt - x22_2.toInt) := hV
        have hBs : bOK (ai 0) (st 7) x16_2 x24_2 := hBs
        refine lv_aload_n hx hb dX9_block_43 rfl (lv_at hl 0 rfl) ?_
        refine va_get (D := (dC, dI)) (ci := 11) (v := .int x17_2) (C := RX9) (T := TX9) (N := 38) hx hb hts hin9 hown hK hP 0 rfl rfl 17 (by decide) (hts (.fieldLink RX9 176 "BlockLogModel" "needs" "Z") (by decide +kernel)) (fun _ h9 => h9) rfl dX9_block_44 ?_
        refine lv_if_eq (tgt := 53) hx hb dX9_block_47 (by decide) (fun c_20 => ?_) (fun c_20 => ?_)
        · skip
          have ic_20 := iv_eq c_20
          refine lv_aload_n hx hb dX9_block_53 rfl (lv_at hl 0 rfl) ?_
          refine lv_lload_n hx hb dX9_block_54 rfl (lv_at hl 2 rfl) ?_
          refine vp_callSl (va_Run.run (va_runV (As := [.long p1]) (rest := []) ⟨hx, hb, hml, hown, hts⟩ (v_X9_meant l dC dI o c kc (rU (rU (rU (rU (rU (rU (rU st 13 jt_1) 16 x16_2) 17 x17_2) 21 x21_2) 22 x22_2) 24 x24_2) 26 x26_2) (rU (rU lg 23 y23_2) 27 y27_2) (rU (rU (rU ai 19 f19_2) 20 f20_2) 25 f25_2) (rU al 18 g18_2) p1 (show 0 ≤ x16_2.toInt by omega) (show x16_2.toInt ≤ 128 by omega)) (cwV 1 hts gX9_block_X9_meant rfl rfl rfl (by decide +kernel) ⟨Nat.le_of_ble_eq_true rfl, Nat.le_of_ble_eq_true rfl⟩) ⟨fun a U g mk q => by obtain ⟨q0, qP, qK⟩ := q; exact ⟨q0, qP, va_K.moved (u := U) (U := U.calling g mk a) (Vm.Alike.refl U.vm) qK⟩, va_recv hK hP (ci := 11) (q := (RX9, TX9, 38)) rfl (q0 := 0) rfl, fun U hU hW => ⟨rfl, by rw [hU]; exact hP, va_K.moved hW.alike hK⟩⟩ rfl rfl hl.1 rfl (lv_room (Nat.le_of_ble_eq_true rfl)) dX9_block_55 ⟨Nat.le_of_ble_eq_true rfl, Nat.le_of_ble_eq_true rfl⟩)) (fun r_21 er_21 => ?_)
          refine lv_lstore (lv' := [(4, .long r_21), (0, .ref o), (1, .int p0), (2, .long p1)]) hx hb dX9_block_58 hl (by decide) rfl (fun ls hl => ?_)
          have join60 : ∀ (jt_60 : Int32) (H : Heap) (locs : List Loc) (ls : Array Slot), (-1 ≤ jt_60.toInt) → (jt_60.toInt < x16_2.toInt) → va_P (dC, dI) vwCl (rw_W o c kc (rU (rU (rU (rU (rU (rU (rU st 13 jt_1) 16 x16_2) 17 x17_2) 21 x21_2) 22 x22_2) 24 x24_2) 26 x26_2) (rU (rU lg 23 y23_2) 27 y27_2) (rU (rU (rU ai 19 f19_2) 20 f20_2) 25 f25_2) (rU al 18 g18_2)) H → va_S A s.heap H locs → lv_has ls 15 [(4, .long r_21), (0, .ref o), (1, .int p0), (2, .long p1)] → W p l e (headSpec wsX9_block ({ frames := 7, cells := 0, slots := 0, locals := 159 })).room s m ([.ref o, .int p0, .long p1] : List Value).toArray below meth cM H locs 0 0 (MQ below (va_Qi (fun r (u : Int32) => r = u) (fun u t => ∃ (x3 : Int32) (x4 : Int32) (x5 : Int32) (x6 : Int32) (x12 : Int32) (x13 : Int32) (x15 : Int32) (x16 : Int32) (x17 : Int32) (x21 : Int32) (x22 : Int32) (x24 : Int32) (x26 : Int32) (y23 : Int64) (y27 : Int64) (f0 : Nat → Int32) (f14 : Nat → Int32) (f19 : Nat → Int32) (f20 : Nat → Int32) (f25 : Nat → Int32) (g18 : Nat → Int64), (0 ≤ x3.toInt) ∧ (x3.toInt ≤ 1) ∧ (0 ≤ x6.toInt) ∧ (x6.toInt ≤ 1) ∧ (0 ≤ x12.toInt) ∧ (x12.toInt ≤ 8) ∧ (0 ≤ x15.toInt) ∧ (x15.toInt ≤ 128) ∧ (0 ≤ x16.toInt) ∧ (x16.toInt ≤ 128) ∧ (0 ≤ x17.toInt) ∧ (x17.toInt ≤ 1) ∧ (-1 ≤ x21.toInt) ∧ (x21.toInt ≤ 127) ∧ (0 ≤ x22.toInt) ∧ (x22.toInt ≤ 1000000) ∧ (0 ≤ x24.toInt) ∧ (x24.toInt ≤ 1) ∧ (0 ≤ x26.toInt) ∧ (x26.toInt ≤ 2000000) ∧ (aR f25 130 (0) 127) ∧ va_P (dC, dI) vwCl (rw_W o c kc (rU (rU (rU (rU (rU (rU (rU (rU (rU (rU (rU (rU (rU st 3 x3) 4 x4) 5 x5) 6 x6) 12 x12) 13 x13) 15 x15) 16 x16) 17 x17) 21 x21) 22 x22) 24 x24) 26 x26) (rU (rU lg 23 y23) 27 y27) (rU (rU (rU (rU (rU ai 0 f0) 14 f14) 19 f19) 20 f20) 25 f25) (rU al 18 g18)) t.heap) A) ([.ref o, .int p0, .long p1] : List Value).toArray s 0 0 A) (F0 m 81 ls [.int jt_60]) := by
            intro jt_60 H locs ls ij0_60 ij1_60 hP hS hl
            refine lv_istore (lv' := [(6, .int jt_60), (4, .long r_21), (0, .ref o), (1, .int p0), (2, .long p1)]) hx hb dX9_block_81 hl (by decide) rfl (fun ls hl => ?_)
            have join83 : ∀ (jt_83 : Int32) (H : Heap) (locs : List Loc) (ls : Array Slot), (0 ≤ jt_83.toInt) → (jt_83.toInt ≤ 1) → va_P (dC, dI) vwCl (rw_W o c kc (rU (rU (rU (rU (rU (rU (rU st 13 jt_1) 16 x16_2) 17 x17_2) 21 x21_2) 22 x22_2) 24 x24_2) 26 x26_2) (rU (rU lg 23 y23_2) 27 y27_2) (rU (rU (rU ai 19 f19_2) 20 f20_2) 25 f25_2) (rU al 18 g18_2)) H → va_S A s.heap H locs → lv_has ls 15 [(6, .int jt_60), (4, .long r_21), (0, .ref o), (1, .int p0), (2, .long p1)] → W p l e (headSpec wsX9_block ({ frames := 7, cells := 0, slots := 0, locals := 159 })).room s m ([.ref o, .int p0, .long p1] : List Value).toArray below meth cM H locs 0 0 (MQ below (va_Qi (fun r (u : Int32) => r = u) (fun u t => ∃ (x3 : Int32) (x4 : Int32) (x5 : Int32) (x6 : Int32) (x12 : Int32) (x13 : Int32) (x15 : Int32) (x16 : Int32) (x17 : Int32) (x21 : Int32) (x22 : Int32) (x24 : Int32) (x26 : Int32) (y23 : Int64) (y27 : Int64) (f0 : Nat → Int32) (f14 : Nat → Int32) (f19 : Nat → Int32) (f20 : Nat → Int32) (f25 : Nat → Int32) (g18 : Nat → Int64), (0 ≤ x3.toInt) ∧ (x3.toInt ≤ 1) ∧ (0 ≤ x6.toInt) ∧ (x6.toInt ≤ 1) ∧ (0 ≤ x12.toInt) ∧ (x12.toInt ≤ 8) ∧ (0 ≤ x15.toInt) ∧ (x15.toInt ≤ 128) ∧ (0 ≤ x16.toInt) ∧ (x16.toInt ≤ 128) ∧ (0 ≤ x17.toInt) ∧ (x17.toInt ≤ 1) ∧ (-1 ≤ x21.toInt) ∧ (x21.toInt ≤ 127) ∧ (0 ≤ x22.toInt) ∧ (x22.toInt ≤ 1000000) ∧ (0 ≤ x24.toInt) ∧ (x24.toInt ≤ 1) ∧ (0 ≤ x26.toInt) ∧ (x26.toInt ≤ 2000000) ∧ (aR f25 130 (0) 127) ∧ va_P (dC, dI) vwCl (rw_W o c kc (rU (rU (rU (rU (rU (rU (rU (rU (rU (rU (rU (rU (rU st 3 x3) 4 x4) 5 x5) 6 x6) 12 x12) 13 x13) 15 x15) 16 x16) 17 x17) 21 x21) 22 x22) 24 x24) 26 x26) (rU (rU lg 23 y23) 27 y27) (rU (rU (rU (rU (rU ai 0 f0) 14 f14) 19 f19) 20 f20) 25 f25) (rU al 18 g18)) t.heap) A) ([.ref o, .int p0, .long p1] : List Value).toArray s 0 0 A) (F0 m 111 ls [.int jt_83]) := by
              intro jt_83 H locs ls ij0_83 ij1_83 hP hS hl
              refine lv_istore (lv' := [(7, .int jt_83), (6, .int jt_60), (4, .long r_21), (0, .ref o), (1, .int p0), (2, .long p1)]) hx hb dX9_block_111 hl (by decide) rfl (fun ls hl => ?_)
              have join113 : ∀ (jt_113 : Int32) (H : Heap) (locs : List Loc) (ls : Array Slot), (0 ≤ jt_113.toInt) → (jt_113.toInt ≤ 1) → va_P (dC, dI) vwCl (rw_W o c kc (rU (rU (rU (rU (rU (rU (rU st 13 jt_1) 16 x16_2) 17 x17_2) 21 x21_2) 22 x22_2) 24 x24_2) 26 x26_2) (rU (rU lg 23 y23_2) 27 y27_2) (rU (rU (rU ai 19 f19_2) 20 f20_2) 25 f25_2) (rU al 18 g18_2)) H → va_S A s.heap H locs → lv_has ls 15 [(7, .int jt_83), (6, .int jt_60), (4, .long r_21), (0, .ref o), (1, .int p0), (2, .long p1)] → W p l e (headSpec wsX9_block ({ frames := 7, cells := 0, slots := 0, locals := 159 })).room s m ([.ref o, .int p0, .long p1] : List Value).toArray below meth cM H locs 0 0 (MQ below (va_Qi (fun r (u : Int32) => r = u) (fun u t => ∃ (x3 : Int32) (x4 : Int32) (x5 : Int32) (x6 : Int32) (x12 : Int32) (x13 : Int32) (x15 : Int32) (x16 : Int32) (x17 : Int32) (x21 : Int32) (x22 : Int32) (x24 : Int32) (x26 : Int32) (y23 : Int64) (y27 : Int64) (f0 : Nat → Int32) (f14 : Nat → Int32) (f19 : Nat → Int32) (f20 : Nat → Int32) (f25 : Nat → Int32) (g18 : Nat → Int64), (0 ≤ x3.toInt) ∧ (x3.toInt ≤ 1) ∧ (0 ≤ x6.toInt) ∧ (x6.toInt ≤ 1) ∧ (0 ≤ x12.toInt) ∧ (x12.toInt ≤ 8) ∧ (0 ≤ x15.toInt) ∧ (x15.toInt ≤ 128) ∧ (0 ≤ x16.toInt) ∧ (x16.toInt ≤ 128) ∧ (0 ≤ x17.toInt) ∧ (x17.toInt ≤ 1) ∧ (-1 ≤ x21.toInt) ∧ (x21.toInt ≤ 127) ∧ (0 ≤ x22.toInt) ∧ (x22.toInt ≤ 1000000) ∧ (0 ≤ x24.toInt) ∧ (x24.toInt ≤ 1) ∧ (0 ≤ x26.toInt) ∧ (x26.toInt ≤ 2000000) ∧ (aR f25 130 (0) 127) ∧ va_P (dC, dI) vwCl (rw_W o c kc (rU (rU (rU (rU (rU (rU (rU (rU (rU (rU (rU (rU (rU st 3 x3) 4 x4) 5 x5) 6 x6) 12 x12) 13 x13) 15 x15) 16 x16) 17 x17) 21 x21) 22 x22) 24 x24) 26 x26) (rU (rU lg 23 y23) 27 y27) (rU (rU (rU (rU (rU ai 0 f0) 14 f14) 19 f19) 20 f20) 25 f25) (rU al 18 g18)) t.heap) A) ([.ref o, .int p0, .long p1] : List Value).toArray s 0 0 A) (F0 m 132 ls [.int jt_113]) := by
                intro jt_113 H locs ls ij0_113 ij1_113 hP hS hl
                refine lv_istore (lv' := [(8, .int jt_113), (7, .int jt_83), (6, .int jt_60), (4, .long r_21), (0, .ref o), (1, .int p0), (2, .long p1)]) hx hb dX9_block_132 hl (by decide) rfl (fun ls hl => ?_)
                have join134 : ∀ (H : Heap) (locs : List Loc) (ls : Array Slot), va_P (dC, dI) vwCl (rw_W o c kc (rU (rU (rU (rU (rU (rU (rU st 13 jt_1) 16 x16_2) 17 x17_2) 21 x21_2) 22 x22_2) 24 x24_2) 26 x26_2) (rU (rU lg 23 y23_2) 27 y27_2) (rU (rU (rU ai 19 f19_2) 20 f20_2) 25 f25_2) (rU al 18 g18_2)) H → va_S A s.heap H locs → lv_has ls 15 [(8, .int jt_113), (7, .int jt_83), (6, .int jt_60), (4, .long r_21), (0, .ref o), (1, .int p0), (2, .long p1)] → W p l e (headSpec wsX9_block ({ frames := 7, cells := 0, slots := 0, locals := 159 })).room s m ([.ref o, .int p0, .long p1] : List Value).toArray below meth cM H locs 0 0 (MQ below (va_Qi (fun r (u : Int32) => r = u) (fun u t => ∃ (x3 : Int32) (x4 : Int32) (x5 : Int32) (x6 : Int32) (x12 : Int32) (x13 : Int32) (x15 : Int32) (x16 : Int32) (x17 : Int32) (x21 : Int32) (x22 : Int32) (x24 : Int32) (x26 : Int32) (y23 : Int64) (y27 : Int64) (f0 : Nat → Int32) (f14 : Nat → Int32) (f19 : Nat → Int32) (f20 : Nat → Int32) (f25 : Nat → Int32) (g18 : Nat → Int64), (0 ≤ x3.toInt) ∧ (x3.toInt ≤ 1) ∧ (0 ≤ x6.toInt) ∧ (x6.toInt ≤ 1) ∧ (0 ≤ x12.toInt) ∧ (x12.toInt ≤ 8) ∧ (0 ≤ x15.toInt) ∧ (x15.toInt ≤ 128) ∧ (0 ≤ x16.toInt) ∧ (x16.toInt ≤ 128) ∧ (0 ≤ x17.toInt) ∧ (x17.toInt ≤ 1) ∧ (-1 ≤ x21.toInt) ∧ (x21.toInt ≤ 127) ∧ (0 ≤ x22.toInt) ∧ (x22.toInt ≤ 1000000) ∧ (0 ≤ x24.toInt) ∧ (x24.toInt ≤ 1) ∧ (0 ≤ x26.toInt) ∧ (x26.toInt ≤ 2000000) ∧ (aR f25 130 (0) 127) ∧ va_P (dC, dI) vwCl (rw_W o c kc (rU (rU (rU (rU (rU (rU (rU (rU (rU (rU (rU (rU (rU st 3 x3) 4 x4) 5 x5) 6 x6) 12 x12) 13 x13) 15 x15) 16 x16) 17 x17) 21 x21) 22 x22) 24 x24) 26 x26) (rU (rU lg 23 y23) 27 y27) (rU (rU (rU (rU (rU ai 0 f0) 14 f14) 19 f19) 20 f20) 25 f25) (rU al 18 g18)) t.heap) A) ([.ref o, .int p0, .long p1] : List Value).toArray s 0 0 A) (F0 m 153 ls []) := by
                  intro H locs ls  hP hS hl
                  have join153 : ∀ (jt_153 : Int32) (H : Heap) (locs : List Loc) (ls : Array Slot), va_P (dC, dI) vwCl (rw_W o c kc (rU (rU (rU (rU (rU (rU (rU st 13 jt_1) 16 x16_2) 17 x17_2) 21 x21_2) 22 x22_2) 24 x24_2) 26 x26_2) (rU (rU lg 23 y23_2) 27 y27_2) (rU (rU (rU ai 19 f19_2) 20 f20_2) 25 f25_2) (rU al 18 g18_2)) H → va_S A s.heap H locs → lv_has ls 15 [(8, .int jt_113), (7, .int jt_83), (6, .int jt_60), (4, .long r_21), (0, .ref o), (1, .int p0), (2, .long p1)] → W p l e (headSpec wsX9_block ({ frames := 7, cells := 0, slots := 0, locals := 159 })).room s m ([.ref o, .int p0, .long p1] : List Value).toArray below meth cM H locs 0 0 (MQ below (va_Qi (fun r (u : Int32) => r = u) (fun u t => ∃ (x3 : Int32) (x4 : Int32) (x5 : Int32) (x6 : Int32) (x12 : Int32) (x13 : Int32) (x15 : Int32) (x16 : Int32) (x17 : Int32) (x21 : Int32) (x22 : Int32) (x24 : Int32) (x26 : Int32) (y23 : Int64) (y27 : Int64) (f0 : Nat → Int32) (f14 : Nat → Int32) (f19 : Nat → Int32) (f20 : Nat → Int32) (f25 : Nat → Int32) (g18 : Nat → Int64), (0 ≤ x3.toInt) ∧ (x3.toInt ≤ 1) ∧ (0 ≤ x6.toInt) ∧ (x6.toInt ≤ 1) ∧ (0 ≤ x12.toInt) ∧ (x12.toInt ≤ 8) ∧ (0 ≤ x15.toInt) ∧ (x15.toInt ≤ 128) ∧ (0 ≤ x16.toInt) ∧ (x16.toInt ≤ 128) ∧ (0 ≤ x17.toInt) ∧ (x17.toInt ≤ 1) ∧ (-1 ≤ x21.toInt) ∧ (x21.toInt ≤ 127) ∧ (0 ≤ x22.toInt) ∧ (x22.toInt ≤ 1000000) ∧ (0 ≤ x24.toInt) ∧ (x24.toInt ≤ 1) ∧ (0 ≤ x26.toInt) ∧ (x26.toInt ≤ 2000000) ∧ (aR f25 130 (0) 127) ∧ va_P (dC, dI) vwCl (rw_W o c kc (rU (rU (rU (rU (rU (rU (rU (rU (rU (rU (rU (rU (rU st 3 x3) 4 x4) 5 x5) 6 x6) 12 x12) 13 x13) 15 x15) 16 x16) 17 x17) 21 x21) 22 x22) 24 x24) 26 x26) (rU (rU lg 23 y23) 27 y27) (rU (rU (rU (rU (rU ai 0 f0) 14 f14) 19 f19) 20 f20) 25 f25) (rU al 18 g18)) t.heap) A) ([.ref o, .int p0, .long p1] : List Value).toArray s 0 0 A) (F0 m 181 ls [.int jt_153]) := by
                    intro jt_153 H locs ls  hP hS hl
                    refine lv_istore (lv' := [(9, .int jt_153), (8, .int jt_113), (7, .int jt_83), (6, .int jt_60), (4, .long r_21), (0, .ref o), (1, .int p0), (2, .long p1)]) hx hb dX9_block_181 hl (by decide) rfl (fun ls hl => ?_)
                    refine lv_iload_n hx hb dX9_block_183 rfl (lv_at hl 6 rfl) ?_
                    refine lv_iload hx hb dX9_block_184 (lv_at hl 0 rfl) ?_
                    refine lv_iconst (v := 1) hx hb dX9_block_186 (by decide) ?_
                    refine lv_iadd hx hb dX9_block_187 ?_
                    refine lv_topi (fun v_22 ev_22 => ?_)
                    clear ev_22
                    refine lv_icmp_eq (tgt := 194) hx hb dX9_block_188 (by decide) (fun c_23 => ?_) (fun c_23 => ?_)
                    · skip
                      have ic_23 := iv_eq c_23
                      refine lv_aload_n hx hb dX9_block_194 rfl (lv_at hl 5 rfl) ?_
                      refine lv_aload_n hx hb dX9_block_195 rfl (lv_at hl 5 rfl) ?_
                      refine lv_ldc2 hx hb hown (hts (.constantLong RX9 222 (4000012)) (by decide +kernel)) dX9_block_196 ?_
                      refine lv_iload_n hx hb dX9_block_199 rfl (lv_at hl 6 rfl) ?_
                      refine lv_i2l hx hb dX9_block_200 rfl ?_
                      refine lv_topl (fun w_24 ew_24 => ?_)
                      clear ew_24
                      refine lv_iconst (v := 4) hx hb dX9_block_201 (by decide) ?_
                      refine vp_callSl (va_Run.run (va_runV (As := [.long (4000012 : Int64), .long w_24, .int (4 : Int32)]) (rest := [.ref o]) ⟨hx, hb, hml, hown, hts⟩ (v_X9_numberSum l dC dI o c kc (rU (rU (rU (rU (rU (rU (rU st 13 jt_1) 16 x16_2) 17 x17_2) 21 x21_2) 22 x22_2) 24 x24_2) 26 x26_2) (rU (rU lg 23 y23_2) 27 y27_2) (rU (rU (rU ai 19 f19_2) 20 f20_2) 25 f25_2) (rU al 18 g18_2) (4000012 : Int64) w_24 (4 : Int32) (by omega) (by omega)) (cwV 3 hts gX9_block_X9_numberSum rfl rfl rfl (by decide +kernel) ⟨Nat.le_of_ble_eq_true rfl, Nat.le_of_ble_eq_true rfl⟩) ⟨fun a U g mk q => by obtain ⟨q0, qP, qK⟩ := q; exact ⟨q0, qP, va_K.moved (u := U) (U := U.calling g mk a) (Vm.Alike.refl U.vm) qK⟩, va_recv hK hP (ci := 11) (q := (RX9, TX9, 38)) rfl (q0 := 0) rfl, fun U hU hW => ⟨rfl, by rw [hU]; exact hP, va_K.moved hW.alike hK⟩⟩ rfl rfl hl.1 rfl (lv_room (Nat.le_of_ble_eq_true rfl)) dX9_block_202 ⟨Nat.le_of_ble_eq_true rfl, Nat.le_of_ble_eq_true rfl⟩)) (fun r_25 er_25 => ?_)
                      refine lv_lload hx hb dX9_block_205 (lv_at hl 4 rfl) ?_
                      refine lv_bipush (v := 8) hx hb dX9_block_207 (by decide) ?_
                      refine vp_callSl (va_Run.run (va_runV (As := [.long r_25, .long r_21, .int (8 : Int32)]) (rest := []) ⟨hx, hb, hml, hown, hts⟩ (v_X9_numberSum l dC dI o c kc (rU (rU (rU (rU (rU (rU (rU st 13 jt_1) 16 x16_2) 17 x17_2) 21 x21_2) 22 x22_2) 24 x24_2) 26 x26_2) (rU (rU lg 23 y23_2) 27 y27_2) (rU (rU (rU ai 19 f19_2) 20 f20_2) 25 f25_2) (rU al 18 g18_2) r_25 r_21 (8 : Int32) (by omega) (by omega)) (cwV 3 hts gX9_block_X9_numberSum rfl rfl rfl (by decide +kernel) ⟨Nat.le_of_ble_eq_true rfl, Nat.le_of_ble_eq_true rfl⟩) ⟨fun a U g mk q => by obtain ⟨q0, qP, qK⟩ := q; exact ⟨q0, qP, va_K.moved (u := U) (U := U.calling g mk a) (Vm.Alike.refl U.vm) qK⟩, va_recv hK hP (ci := 11) (q := (RX9, TX9, 38)) rfl (q0 := 0) rfl, fun U hU hW => ⟨rfl, by rw [hU]; exact hP, va_K.moved hW.alike hK⟩⟩ rfl rfl hl.1 rfl (lv_room (Nat.le_of_ble_eq_true rfl)) dX9_block_209 ⟨Nat.le_of_ble_eq_true rfl, Nat.le_of_ble_eq_true rfl⟩)) (fun r_26 er_26 => ?_)
                      refine lv_lstore (lv' := [(10, .long r_26), (9, .int jt_153), (8, .int jt_113), (7, .int jt_83), (6, .int jt_60), (4, .long r_21), (0, .ref o), (1, .int p0), (2, .long p1)]) hx hb dX9_block_212 hl (by decide) rfl (fun ls hl => ?_)
                      refine lv_iconst (v := 0) hx hb dX9_block_214 (by decide) ?_
                      refine lv_istore (lv' := [(12, .int (0 : Int32)), (10, .long r_26), (9, .int jt_153), (8, .int jt_113), (7, .int jt_83), (6, .int jt_60), (4, .long r_21), (0, .ref o), (1, .int p0), (2, .long p1)]) hx hb dX9_block_215 hl (by decide) rfl (fun ls hl => ?_)
                      have loop217 : ∀ (n : Nat) (l12_217 : Int32) (l10_217 : Int64) (H : Heap) (locs : List Loc) (ls : Array Slot), (0 ≤ l12_217.toInt) → (l12_217.toInt ≤ (st 12).toInt) → ((st 12).toInt - l12_217.toInt : Int).toNat < n → va_P (dC, dI) vwCl (rw_W o c kc (rU (rU (rU (rU (rU (rU (rU st 13 jt_1) 16 x16_2) 17 x17_2) 21 x21_2) 22 x22_2) 24 x24_2) 26 x26_2) (rU (rU lg 23 y23_2) 27 y27_2) (rU (rU (rU ai 19 f19_2) 20 f20_2) 25 f25_2) (rU al 18 g18_2)) H → va_S A s.heap H locs → lv_has ls 15 [(12, .int l12_217), (10, .long l10_217), (9, .int jt_153), (8, .int jt_113), (7, .int jt_83), (6, .int jt_60), (4, .long r_21), (0, .ref o), (1, .int p0), (2, .long p1)] → W p l e (headSpec wsX9_block ({ frames := 7, cells := 0, slots := 0, locals := 159 })).room s m ([.ref o, .int p0, .long p1] : List Value).toArray below meth cM H locs 0 0 (MQ below (va_Qi (fun r (u : Int32) => r = u) (fun u t => ∃ (x3 : Int32) (x4 : Int32) (x5 : Int32) (x6 : Int32) (x12 : Int32) (x13 : Int32) (x15 : Int32) (x16 : Int32) (x17 : Int32) (x21 : Int32) (x22 : Int32) (x24 : Int32) (x26 : Int32) (y23 : Int64) (y27 : Int64) (f0 : Nat → Int32) (f14 : Nat → Int32) (f19 : Nat → Int32) (f20 : Nat → Int32) (f25 : Nat → Int32) (g18 : Nat → Int64), (0 ≤ x3.toInt) ∧ (x3.toInt ≤ 1) ∧ (0 ≤ x6.toInt) ∧ (x6.toInt ≤ 1) ∧ (0 ≤ x12.toInt) ∧ (x12.toInt ≤ 8) ∧ (0 ≤ x15.toInt) ∧ (x15.toInt ≤ 128) ∧ (0 ≤ x16.toInt) ∧ (x16.toInt ≤ 128) ∧ (0 ≤ x17.toInt) ∧ (x17.toInt ≤ 1) ∧ (-1 ≤ x21.toInt) ∧ (x21.toInt ≤ 127) ∧ (0 ≤ x22.toInt) ∧ (x22.toInt ≤ 1000000) ∧ (0 ≤ x24.toInt) ∧ (x24.toInt ≤ 1) ∧ (0 ≤ x26.toInt) ∧ (x26.toInt ≤ 2000000) ∧ (aR f25 130 (0) 127) ∧ va_P (dC, dI) vwCl (rw_W o c kc (rU (rU (rU (rU (rU (rU (rU (rU (rU (rU (rU (rU (rU st 3 x3) 4 x4) 5 x5) 6 x6) 12 x12) 13 x13) 15 x15) 16 x16) 17 x17) 21 x21) 22 x22) 24 x24) 26 x26) (rU (rU lg 23 y23) 27 y27) (rU (rU (rU (rU (rU ai 0 f0) 14 f14) 19 f19) 20 f20) 25 f25) (rU al 18 g18)) t.heap) A) ([.ref o, .int p0, .long p1] : List Value).toArray s 0 0 A) (F0 m 217 ls []) := by
                        intro n
                        induction n with
                        | zero => intro l12_217 l10_217 H locs ls if0_217 if1_217 hm; exact absurd hm (Nat.not_lt_zero _)
                        | succ n ih217 =>
                          intro l12_217 l10_217 H locs ls if0_217 if1_217 hm217 hP hS hl
                          refine lv_iload hx hb dX9_block_217 (lv_at hl 0 rfl) ?_
                          refine lv_aload_n hx hb dX9_block_219 rfl (lv_at hl 7 rfl) ?_
                          refine va_get (D := (dC, dI)) (ci := 11) (v := .int (st 12)) (C := RX9) (T := TX9) (N := 38) hx hb hts hin9 hown hK hP 0 rfl rfl 12 (by decide) (hts (.fieldLink RX9 111 "BlockLogModel" "collected" "I") (by decide +kernel)) (fun _ h9 => h9) rfl dX9_block_220 ?_
                          refine lv_icmp_ge (tgt := 262) hx hb dX9_block_223 (by decide) (fun c_27 => ?_) (fun c_27 => ?_)
                          · skip
                            have ic_27 := iv_le c_27
                            refine lv_aload_n hx hb dX9_block_262 rfl (lv_at hl 7 rfl) ?_
                            refine lv_lload hx hb dX9_block_263 (lv_at hl 1 rfl) ?_
                            refine lv_aload_n hx hb dX9_block_265 rfl (lv_at hl 7 rfl) ?_
                            refine va_get (D := (dC, dI)) (ci := 11) (v := .int x16_2) (C := RX9) (T := TX9) (N := 38) hx hb hts hin9 hown hK hP 0 rfl rfl 16 (by decide) (hts (.fieldLink RX9 167 "BlockLogModel" "many" "I") (by decide +kernel)) (fun _ h9 => h9) rfl dX9_block_266 ?_
                            refine vp_callSi (va_Run.run (va_runV (As := [.long l10_217, .int x16_2]) (rest := []) ⟨hx, hb, hml, hown, hts⟩ (v_X9_blockRow l dC dI o c kc (rU (rU (rU (rU (rU (rU (rU st 13 jt_1) 16 x16_2) 17 x17_2) 21 x21_2) 22 x22_2) 24 x24_2) 26 x26_2) (rU (rU lg 23 y23_2) 27 y27_2) (rU (rU (rU ai 19 f19_2) 20 f20_2) 25 f25_2) (rU al 18 g18_2) l10_217 x16_2 (show 0 ≤ (st 7).toInt by omega) (show (st 7).toInt ≤ 1 by omega) (by omega) (by omega) (show cOK (ai 0) (st 7) x16_2 f20_2 from (by assumption))) (cwV 2 hts gX9_block_X9_blockRow rfl rfl rfl (by decide +kernel) ⟨Nat.le_of_ble_eq_true rfl, Nat.le_of_ble_eq_true rfl⟩) ⟨fun a U g mk q => by obtain ⟨q0, qP, qK⟩ := q; exact ⟨q0, qP, va_K.moved (u := U) (U := U.calling g mk a) (Vm.Alike.refl U.vm) qK⟩, va_recv hK hP (ci := 11) (q := (RX9, TX9, 38)) rfl (q0 := 0) rfl, fun U hU hW => ⟨rfl, by rw [hU]; exact hP, va_K.moved hW.alike hK⟩⟩ rfl rfl hl.1 rfl (lv_room (Nat.le_of_ble_eq_true rfl)) dX9_block_269 ⟨Nat.le_of_ble_eq_true rfl, Nat.le_of_ble_eq_true rfl⟩)) (fun r_28 er_28 => ?_)
                            obtain ⟨k_29, k_30, hbk⟩ := er_28
                            have hbk : r_28.toInt ≠ -1 → okB (ai 0) (st 7) x16_2 r_28 := hbk
                            refine lv_istore (lv' := [(12, .int r_28), (10, .long l10_217), (9, .int jt_153), (8, .int jt_113), (7, .int jt_83), (6, .int jt_60), (4, .long r_21), (0, .ref o), (1, .int p0), (2, .long p1)]) hx hb dX9_block_272 hl (by decide) rfl (fun ls hl => ?_)
                            refine lv_iload hx hb dX9_block_274 (lv_at hl 0 rfl) ?_
                            refine lv_iconst (v := (-1)) hx hb dX9_block_276 (by decide) ?_
                            refine lv_icmp_eq (tgt := 288) hx hb dX9_block_277 (by decide) (fun c_31 => ?_) (fun c_31 => ?_)
                            · skip
                              have ic_31 := iv_eq c_31
                              refine lv_aload_n hx hb dX9_block_288 rfl (lv_at hl 7 rfl) ?_
                              refine va_get (D := (dC, dI)) (ci := 11) (v := .int x16_2) (C := RX9) (T := TX9) (N := 38) hx hb hts hin9 hown hK hP 0 rfl rfl 16 (by decide) (hts (.fieldLink RX9 167 "BlockLogModel" "many" "I") (by decide +kernel)) (fun _ h9 => h9) rfl dX9_block_289 ?_
                              refine lv_iconst (v := 1) hx hb dX9_block_292 (by decide) ?_
                              refine lv_iadd hx hb dX9_block_293 ?_
                              refine lv_topi (fun v_32 ev_32 => ?_)
                              have rg1 := iv_rng x16_2
                              have hv_32 : v_32.toInt = x16_2.toInt + 1 := by rw [ev_32]; exact (iv_add (by omega) (by omega)).trans (by omega)
                              clear ev_32
                              refine lv_aload_n hx hb dX9_block_294 rfl (lv_at hl 7 rfl) ?_
                              refine va_get (D := (dC, dI)) (ci := 11) (v := .int (st 12)) (C := RX9) (T := TX9) (N := 38) hx hb hts hin9 hown hK hP 0 rfl rfl 12 (by decide) (hts (.fieldLink RX9 111 "BlockLogModel" "collected" "I") (by decide +kernel)) (fun _ h9 => h9) rfl dX9_block_295 ?_
                              refine lv_iadd hx hb dX9_block_298 ?_
                              refine lv_topi (fun v_33 ev_33 => ?_)
                              have rg2 := iv_rng v_32
                              have rg3 := iv_rng (st 12)
                              have hv_33 : v_33.toInt = v_32.toInt + (st 12).toInt := by rw [ev_33]; exact (iv_add (by omega) (by omega)).trans (by omega)
                              clear ev_33
                              refine lv_sipush (v := 128) hx hb dX9_block_299 (by decide) ?_
                              refine lv_icmp_le (tgt := 308) hx hb dX9_block_302 (by decide) (fun c_34 => ?_) (fun c_34 => ?_)
                              · skip
                                have ic_34 := iv_le c_34
                                refine lv_aload_n hx hb dX9_block_308 rfl (lv_at hl 7 rfl) ?_
                                refine va_get (D := (dC, dI)) (ci := 11) (v := .int (st 12)) (C := RX9) (T := TX9) (N := 38) hx hb hts hin9 hown hK hP 0 rfl rfl 12 (by decide) (hts (.fieldLink RX9 111 "BlockLogModel" "collected" "I") (by decide +kernel)) (fun _ h9 => h9) rfl dX9_block_309 ?_
                                refine lv_istore (lv' := [(13, .int (st 12)), (12, .int r_28), (10, .long l10_217), (9, .int jt_153), (8, .int jt_113), (7, .int jt_83), (6, .int jt_60), (4, .long r_21), (0, .ref o), (1, .int p0), (2, .long p1)]) hx hb dX9_block_312 hl (by decide) rfl (fun ls hl => ?_)
                                refine lv_aload_n hx hb dX9_block_314 rfl (lv_at hl 8 rfl) ?_
                                refine lv_iconst (v := 2) hx hb dX9_block_315 (by decide) ?_
                                refine lv_iload_n hx hb dX9_block_316 rfl (lv_at hl 9 rfl) ?_
                                refine lv_iload hx hb dX9_block_317 (lv_at hl 0 rfl) ?_
                                refine lv_lload hx hb dX9_block_319 (lv_at hl 7 rfl) ?_
                                have hFc := vfree (rw_D hD : va_D A (rw_W o c kc (rU (rU (rU (rU (rU (rU (rU st 13 jt_1) 16 x16_2) 17 x17_2) 21 x21_2) 22 x22_2) 24 x24_2) 26 x26_2) (rU (rU lg 23 y23_2) 27 y27_2) (rU (rU (rU ai 19 f19_2) 20 f20_2) 25 f25_2) (rU al 18 g18_2))) hS hA
                                refine va_callv (va_runV (As := [.int (2 : Int32), .int p0, .int (st 12), .long r_21]) (rest := []) ⟨hx, hb, hml, hown, hts⟩ (v_X9_layRow l dC dI o c kc (rU (rU (rU (rU (rU (rU (rU st 13 jt_1) 16 x16_2) 17 x17_2) 21 x21_2) 22 x22_2) 24 x24_2) 26 x26_2) (rU (rU lg 23 y23_2) 27 y27_2) (rU (rU (rU ai 19 f19_2) 20 f20_2) 25 f25_2) (rU al 18 g18_2) (2 : Int32) p0 (st 12) r_21 _ ) (cwV 4 hts gX9_block_X9_layRow rfl rfl rfl (by decide +kernel) ⟨Nat.le_of_ble_eq_true rfl, Nat.le_of_ble_eq_true rfl⟩) ⟨fun a U g mk q => by obtain ⟨q0, q1, qP, qK, qD⟩ := q; exact ⟨q0, q1, qP, va_K.moved (u := U) (U := U.calling g mk a) (Vm.Alike.refl U.vm) qK, qD⟩, va_recv hK hP (ci := 11) (q := (RX9, TX9, 38)) rfl (q0 := 0) rfl, fun U hU hW => ⟨rfl, by rw [hU], by rw [hU]; exact hP, va_K.moved hW.alike hK, rw_D (hD.weaken (fun _ _ _ _ => trivial))⟩⟩ rfl rfl hl.1 rfl (lv_room (Nat.le_of_ble_eq_true rfl)) dX9_block_321 ⟨Nat.le_of_ble_eq_true rfl, Nat.le_of_ble_eq_true rfl⟩) hS (fun q _ h => hFc q h) hFc (fun ur_35 t H1 locs ht hvm er_35 hB hz1 hk1 hS => ?_)
                                obtain ⟨f14_35, hP1⟩ := hB
                                rw [ht] at hP1
                                clear hFc hz1 hk1 hvm hP
                                subst ht
                                have hP := hP1
                                clear hP1
                                generalize t.heap = H at hP hS ⊢
                                have hP : va_P (dC, dI) vwCl (rw_W o c kc (rU (rU (rU (rU (rU (rU (rU st 13 jt_1) 16 x16_2) 17 x17_2) 21 x21_2) 22 x22_2) 24 x24_2) 26 x26_2) (rU (rU lg 23 y23_2) 27 y27_2) (rU (rU (rU (rU ai 14 f14_35) 19 f19_2) 20 f20_2) 25 f25_2) (rU al 18 g18_2)) H := hP
                                refine lv_aload_n hx hb dX9_block_324 rfl (lv_at hl 8 rfl) ?_
                                refine lv_aload_n hx hb dX9_block_325 rfl (lv_at hl 8 rfl) ?_
                                refine lv_aload_n hx hb dX9_block_326 rfl (lv_at hl 8 rfl) ?_
                                refine va_get (D := (dC, dI)) (ci := 11) (v := .int (st 7)) (C := RX9) (T := TX9) (N := 38) hx hb hts hin9 hown hK hP 0 rfl rfl 7 (by decide) (hts (.fieldLink RX9 76 "BlockLogModel" "area" "I") (by decide +kernel)) (fun _ h9 => h9) rfl dX9_block_327 ?_
                                refine lv_aload_n hx hb dX9_block_330 rfl (lv_at hl 8 rfl) ?_
                                refine va_get (D := (dC, dI)) (ci := 11) (v := .int x16_2) (C := RX9) (T := TX9) (N := 38) hx hb hts hin9 hown hK hP 0 rfl rfl 16 (by decide) (hts (.fieldLink RX9 167 "BlockLogModel" "many" "I") (by decide +kernel)) (fun _ h9 => h9) rfl dX9_block_331 ?_
                                refine vp_callSi (va_Run.run (va_runV (As := [.int (st 7), .int x16_2]) (rest := [.ref o]) ⟨hx, hb, hml, hown, hts⟩ (v_X9_rowPlace l dC dI o c kc (rU (rU (rU (rU (rU (rU (rU st 13 jt_1) 16 x16_2) 17 x17_2) 21 x21_2) 22 x22_2) 24 x24_2) 26 x26_2) (rU (rU lg 23 y23_2) 27 y27_2) (rU (rU (rU (rU ai 14 f14_35) 19 f19_2) 20 f20_2) 25 f25_2) (rU al 18 g18_2) (st 7) x16_2 (by omega) (by omega) (by omega) (by omega)) (cwV 2 hts gX9_block_X9_rowPlace rfl rfl rfl (by decide +kernel) ⟨Nat.le_of_ble_eq_true rfl, Nat.le_of_ble_eq_true rfl⟩) ⟨fun a U g mk q => by obtain ⟨q0, qP, qK⟩ := q; exact ⟨q0, qP, va_K.moved (u := U) (U := U.calling g mk a) (Vm.Alike.refl U.vm) qK⟩, va_recv hK hP (ci := 11) (q := (RX9, TX9, 38)) rfl (q0 := 0) rfl, fun U hU hW => ⟨rfl, by rw [hU]; exact hP, va_K.moved hW.alike hK⟩⟩ rfl rfl hl.1 rfl (lv_room (Nat.le_of_ble_eq_true rfl)) dX9_block_334 ⟨Nat.le_of_ble_eq_true rfl, Nat.le_of_ble_eq_true rfl⟩)) (fun r_36 er_36 => ?_)
                                have k_37 := er_36
                                refine lv_bipush (v := 32) hx hb dX9_block_337 (by decide) ?_
                                have hFc := vfree (rw_D hD : va_D A (rw_W o c kc (rU (rU (rU (rU (rU (rU (rU st 13 jt_1) 16 x16_2) 17 x17_2) 21 x21_2) 22 x22_2) 24 x24_2) 26 x26_2) (rU (rU lg 23 y23_2) 27 y27_2) (rU (rU (rU (rU ai 14 f14_35) 19 f19_2) 20 f20_2) 25 f25_2) (rU al 18 g18_2))) hS hA
                                refine va_callv (va_runV (As := [.int r_36, .int (32 : Int32)]) (rest := []) ⟨hx, hb, hml, hown, hts⟩ (v_X9_writeFresh l dC dI o c kc (rU (rU (rU (rU (rU (rU (rU st 13 jt_1) 16 x16_2) 17 x17_2) 21 x21_2) 22 x22_2) 24 x24_2) 26 x26_2) (rU (rU lg 23 y23_2) 27 y27_2) (rU (rU (rU (rU ai 14 f14_35) 19 f19_2) 20 f20_2) 25 f25_2) (rU al 18 g18_2) r_36 (32 : Int32) _ (show 0 ≤ (st 3).toInt by omega) (show (st 3).toInt ≤ 1 by omega) (show 0 ≤ (st 6).toInt by omega) (show (st 6).toInt ≤ 1 by omega) (show 0 ≤ (st 12).toInt by omega) (show (st 12).toInt ≤ 8 by omega) (by omega) (by omega) (by omega) (by omega)) (cwV 2 hts gX9_block_X9_writeFresh rfl rfl rfl (by decide +kernel) ⟨Nat.le_of_ble_eq_true rfl, Nat.le_of_ble_eq_true rfl⟩) ⟨fun a U g mk q => by obtain ⟨q0, q1, qP, qK, qD⟩ := q; exact ⟨q0, q1, qP, va_K.moved (u := U) (U := U.calling g mk a) (Vm.Alike.refl U.vm) qK, qD⟩, va_recv hK hP (ci := 11) (q := (RX9, TX9, 38)) rfl (q0 := 0) rfl, fun U hU hW => ⟨rfl, by rw [hU], by rw [hU]; exact hP, va_K.moved hW.alike hK, rw_D (hD.weaken (fun _ _ _ _ => trivial))⟩⟩ rfl rfl hl.1 rfl (lv_room (Nat.le_of_ble_eq_true rfl)) dX9_block_339 ⟨Nat.le_of_ble_eq_true rfl, Nat.le_of_ble_eq_true rfl⟩) hS (fun q _ h => hFc q h) hFc (fun ur_38 t H1 locs ht hvm er_38 hB hz1 hk1 hS => ?_)
                                obtain ⟨x3_38, x4_38, x5_38, x6_38, x12_38, f0_38, k_39, k_40, k_41, k_42, k_43, k_44, hP1⟩ := hB
                                rw [ht] at hP1
                                clear hFc hz1 hk1 hvm hP
                                subst ht
                                have hP := hP1
                                clear hP1
                                generalize t.heap = H at hP hS ⊢
                                have hP : va_P (dC, dI) vwCl (rw_W o c kc (rU (rU (rU (rU (rU (rU (rU (rU (rU (rU (rU (rU st 3 x3_38) 4 x4_38) 5 x5_38) 6 x6_38) 12 x12_38) 13 jt_1) 16 x16_2) 17 x17_2) 21 x21_2) 22 x22_2) 24 x24_2) 26 x26_2) (rU (rU lg 23 y23_2) 27 y27_2) (rU (rU (rU (rU (rU ai 0 f0_38) 14 f14_35) 19 f19_2) 20 f20_2) 25 f25_2) (rU al 18 g18_2)) H := hP
                                have k_39 : 0 ≤ x3_38.toInt := k_39
                                have k_40 : x3_38.toInt ≤ 1 := k_40
                                have k_41 : 0 ≤ x6_38.toInt := k_41
                                have k_42 : x6_38.toInt ≤ 1 := k_42
                                have k_43 : 0 ≤ x12_38.toInt := k_43
                                have k_44 : x12_38.toInt ≤ 8 := k_44
                                refine lv_iconst (v := 0) hx hb dX9_block_342 (by decide) ?_
                                refine lv_istore (lv' := [(14, .int (0 : Int32)), (13, .int (st 12)), (12, .int r_28), (10, .long l10_217), (9, .int jt_153), (8, .int jt_113), (7, .int jt_83), (6, .int jt_60), (4, .long r_21), (0, .ref o), (1, .int p0), (2, .long p1)]) hx hb dX9_block_343 hl (by decide) rfl (fun ls hl => ?_)
                                have loop345 : ∀ (n : Nat) (l14_345 : Int32) (s3_345 : Int32) (s4_345 : Int32) (s5_345 : Int32) (s6_345 : Int32) (s12_345 : Int32) (a0_345 : Nat → Int32) (a14_345 : Nat → Int32) (H : Heap) (locs : List Loc) (ls : Array Slot), (0 ≤ l14_345.toInt) → (l14_345.toInt ≤ (st 12).toInt) → (0 ≤ s3_345.toInt) → (s3_345.toInt ≤ 1) → (0 ≤ s6_345.toInt) → (s6_345.toInt ≤ 1) → (0 ≤ s12_345.toInt) → (s12_345.toInt ≤ 8) → ((st 12).toInt - l14_345.toInt : Int).toNat < n → va_P (dC, dI) vwCl (rw_W o c kc (rU (rU (rU (rU (rU (rU (rU (rU (rU (rU (rU (rU st 3 s3_345) 4 s4_345) 5 s5_345) 6 s6_345) 12 s12_345) 13 jt_1) 16 x16_2) 17 x17_2) 21 x21_2) 22 x22_2) 24 x24_2) 26 x26_2) (rU (rU lg 23 y23_2) 27 y27_2) (rU (rU (rU (rU (rU ai 0 a0_345) 14 a14_345) 19 f19_2) 20 f20_2) 25 f25_2) (rU al 18 g18_2)) H → va_S A s.heap H locs → lv_has ls 15 [(14, .int l14_345), (13, .int (st 12)), (12, .int r_28), (10, .long l10_217), (9, .int jt_153), (8, .int jt_113), (7, .int jt_83), (6, .int jt_60), (4, .long r_21), (0, .ref o), (1, .int p0), (2, .long p1)] → W p l e (headSpec wsX9_block ({ frames := 7, cells := 0, slots := 0, locals := 159 })).room s m ([.ref o, .int p0, .long p1] : List Value).toArray below meth cM H locs 0 0 (MQ below (va_Qi (fun r (u : Int32) => r = u) (fun u t => ∃ (x3 : Int32) (x4 : Int32) (x5 : Int32) (x6 : Int32) (x12 : Int32) (x13 : Int32) (x15 : Int32) (x16 : Int32) (x17 : Int32) (x21 : Int32) (x22 : Int32) (x24 : Int32) (x26 : Int32) (y23 : Int64) (y27 : Int64) (f0 : Nat → Int32) (f14 : Nat → Int32) (f19 : Nat → Int32) (f20 : Nat → Int32) (f25 : Nat → Int32) (g18 : Nat → Int64), (0 ≤ x3.toInt) ∧ (x3.toInt ≤ 1) ∧ (0 ≤ x6.toInt) ∧ (x6.toInt ≤ 1) ∧ (0 ≤ x12.toInt) ∧ (x12.toInt ≤ 8) ∧ (0 ≤ x15.toInt) ∧ (x15.toInt ≤ 128) ∧ (0 ≤ x16.toInt) ∧ (x16.toInt ≤ 128) ∧ (0 ≤ x17.toInt) ∧ (x17.toInt ≤ 1) ∧ (-1 ≤ x21.toInt) ∧ (x21.toInt ≤ 127) ∧ (0 ≤ x22.toInt) ∧ (x22.toInt ≤ 1000000) ∧ (0 ≤ x24.toInt) ∧ (x24.toInt ≤ 1) ∧ (0 ≤ x26.toInt) ∧ (x26.toInt ≤ 2000000) ∧ (aR f25 130 (0) 127) ∧ va_P (dC, dI) vwCl (rw_W o c kc (rU (rU (rU (rU (rU (rU (rU (rU (rU (rU (rU (rU (rU st 3 x3) 4 x4) 5 x5) 6 x6) 12 x12) 13 x13) 15 x15) 16 x16) 17 x17) 21 x21) 22 x22) 24 x24) 26 x26) (rU (rU lg 23 y23) 27 y27) (rU (rU (rU (rU (rU ai 0 f0) 14 f14) 19 f19) 20 f20) 25 f25) (rU al 18 g18)) t.heap) A) ([.ref o, .int p0, .long p1] : List Value).toArray s 0 0 A) (F0 m 345 ls []) := by
                                  intro n
                                  induction n with
                                  | zero => intro l14_345 s3_345 s4_345 s5_345 s6_345 s12_345 a0_345 a14_345 H locs ls if0_345 if1_345 if2_345 if3_345 if4_345 if5_345 if6_345 if7_345 hm; exact absurd hm (Nat.not_lt_zero _)
                                  | succ n ih345 =>
                                    intro l14_345 s3_345 s4_345 s5_345 s6_345 s12_345 a0_345 a14_345 H locs ls if0_345 if1_345 if2_345 if3_345 if4_345 if5_345 if6_345 if7_345 hm345 hP hS hl
                                    refine lv_iload hx hb dX9_block_345 (lv_at hl 0 rfl) ?_
                                    refine lv_iload hx hb dX9_block_347 (lv_at hl 1 rfl) ?_
                                    refine lv_icmp_ge (tgt := 401) hx hb dX9_block_349 (by decide) (fun c_45 => ?_) (fun c_45 => ?_)
                                    · skip
                                      have ic_45 := iv_le c_45
                                      refine lv_aload_n hx hb dX9_block_401 rfl (lv_at hl 9 rfl) ?_
                                      refine lv_iconst (v := 0) hx hb dX9_block_402 (by decide) ?_
                                      refine va_put (D := (dC, dI)) (ci := 11) (v := .int (0 : Int32)) (ty := .int) (C := RX9) (T := TX9) (N := 38) hx hb hts hin9 tyX9 tyX9_ok nmX9 hown hK hP (rw_D hD) hS 0 rfl rfl 12 (by decide) (hts (.fieldLink RX9 111 "BlockLogModel" "collected" "I") (by decide +kernel)) (fun _ h9 => h9) rfl (by decide +kernel) rfl rfl (Nat.le_of_ble_eq_true rfl) dX9_block_403 (fun H locs hP _ hS => ?_)
                                      have hP : va_P (dC, dI) vwCl (rw_W o c kc (rU (rU (rU (rU (rU (rU (rU (rU (rU (rU (rU (rU st 3 s3_345) 4 s4_345) 5 s5_345) 6 s6_345) 12 (0 : Int32)) 13 jt_1) 16 x16_2) 17 x17_2) 21 x21_2) 22 x22_2) 24 x24_2) 26 x26_2) (rU (rU lg 23 y23_2) 27 y27_2) (rU (rU (rU (rU (rU ai 0 a0_345) 14 a14_345) 19 f19_2) 20 f20_2) 25 f25_2) (rU al 18 g18_2)) H := hP
                                      refine lv_aload_n hx hb dX9_block_406 rfl (lv_at hl 9 rfl) ?_
                                      refine lv_aload_n hx hb dX9_block_407 rfl (lv_at hl 9 rfl) ?_
                                      refine va_get (D := (dC, dI)) (ci := 11) (v := .int x16_2) (C := RX9) (T := TX9) (N := 38) hx hb hts hin9 hown hK hP 0 rfl rfl 16 (by decide) (hts (.fieldLink RX9 167 "BlockLogModel" "many" "I") (by decide +kernel)) (fun _ h9 => h9) rfl dX9_block_408 ?_
                                      refine lv_iconst (v := 1) hx hb dX9_block_411 (by decide) ?_
                                      refine lv_iadd hx hb dX9_block_412 ?_
                                      refine lv_topi (fun v_46 ev_46 => ?_)
                                      have hv_46 : v_46.toInt = x16_2.toInt + 1 := by rw [ev_46]; exact (iv_add (by omega) (by omega)).trans (by omega)
                                      clear ev_46
                                      refine lv_iload hx hb dX9_block_413 (lv_at hl 1 rfl) ?_
                                      refine lv_iadd hx hb dX9_block_415 ?_
                                      refine lv_topi (fun v_47 ev_47 => ?_)
                                      have rg4 := iv_rng v_46
                                      have hv_47 : v_47.toInt = v_46.toInt + (st 12).toInt := by rw [ev_47]; exact (iv_add (by omega) (by omega)).trans (by omega)
                                      clear ev_47
                                      refine va_put (D := (dC, dI)) (ci := 11) (v := .int v_47) (ty := .int) (C := RX9) (T := TX9) (N := 38) hx hb hts hin9 tyX9 tyX9_ok nmX9 hown hK hP (rw_D hD) hS 0 rfl rfl 15 (by decide) (hts (.fieldLink RX9 157 "BlockLogModel" "rowsNow" "I") (by decide +kernel)) (fun _ h9 => h9) rfl (by decide +kernel) rfl rfl (Nat.le_of_ble_eq_true rfl) dX9_block_416 (fun H locs hP _ hS => ?_)
                                      have hP : va_P (dC, dI) vwCl (rw_W o c kc (rU (rU (rU (rU (rU (rU (rU (rU (rU (rU (rU (rU (rU st 3 s3_345) 4 s4_345) 5 s5_345) 6 s6_345) 12 (0 : Int32)) 13 jt_1) 15 v_47) 16 x16_2) 17 x17_2) 21 x21_2) 22 x22_2) 24 x24_2) 26 x26_2) (rU (rU lg 23 y23_2) 27 y27_2) (rU (rU (rU (rU (rU ai 0 a0_345) 14 a14_345) 19 f19_2) 20 f20_2) 25 f25_2) (rU al 18 g18_2)) H := hP
                                      refine lv_aload_n hx hb dX9_block_419 rfl (lv_at hl 9 rfl) ?_
                                      refine va_get (D := (dC, dI)) (ci := 11) (v := .int s6_345) (C := RX9) (T := TX9) (N := 38) hx hb hts hin9 hown hK hP 0 rfl rfl 6 (by decide) (hts (.fieldLink RX9 108 "BlockLogModel" "dark" "Z") (by decide +kernel)) (fun _ h9 => h9) rfl dX9_block_420 ?_
                                      refine lv_if_eq (tgt := 431) hx hb dX9_block_423 (by decide) (fun c_48 => ?_) (fun c_48 => ?_)
                                      · skip
                                        have ic_48 := iv_eq c_48
                                        refine lv_aload_n hx hb dX9_block_431 rfl (lv_at hl 9 rfl) ?_
                                        refine va_get (D := (dC, dI)) (ci := 11) (v := .int x16_2) (C := RX9) (T := TX9) (N := 38) hx hb hts hin9 hown hK hP 0 rfl rfl 16 (by decide) (hts (.fieldLink RX9 167 "BlockLogModel" "many" "I") (by decide +kernel)) (fun _ h9 => h9) rfl dX9_block_432 ?_
                                        exact W.iret hx hb hr (fun t ht hW => ⟨⟨_, _, rfl, rfl, s3_345, s4_345, s5_345, s6_345, (0 : Int32), jt_1, v_47, x16_2, x17_2, x21_2, x22_2, x24_2, x26_2, y23_2, y27_2, a0_345, a14_345, f19_2, f20_2, f25_2, g18_2, (by omega), (by omega), (by omega), (by omega), (by omega), (by omega), (by omega), (by omega), (by omega), (by omega), (by omega), (by omega), (by omega), (by omega), (by omega), (by omega), (by omega), (by omega), (by omega), (by omega), hR25, by rw [ht]; exact hP⟩, hS.F ht⟩) hS.2.2 dX9_block_435
                                      · skip
                                        have ic_48 := iv_ne c_48
                                        refine lv_bipush (v := (-4)) hx hb dX9_block_426 (by decide) ?_
                                        refine lv_goto (tgt := 435) hx hb dX9_block_428 (by decide) ?_
                                        exact W.iret hx hb hr (fun t ht hW => ⟨⟨_, _, rfl, rfl, s3_345, s4_345, s5_345, s6_345, (0 : Int32), jt_1, v_47, x16_2, x17_2, x21_2, x22_2, x24_2, x26_2, y23_2, y27_2, a0_345, a14_345, f19_2, f20_2, f25_2, g18_2, (by omega), (by omega), (by omega), (by omega), (by omega), (by omega), (by omega), (by omega), (by omega), (by omega), (by omega), (by omega), (by omega), (by omega), (by omega), (by omega), (by omega), (by omega), (by omega), (by omega), hR25, by rw [ht]; exact hP⟩, hS.F ht⟩) hS.2.2 dX9_block_435
                                    · skip
                                      have ic_45 := iv_nle c_45
                                      refine lv_aload_n hx hb dX9_block_352 rfl (lv_at hl 9 rfl) ?_
                                      refine lv_iconst (v := 3) hx hb dX9_block_353 (by decide) ?_
                                      refine lv_aload_n hx hb dX9_block_354 rfl (lv_at hl 9 rfl) ?_
                                      refine va_get (D := (dC, dI)) (ci := 11) (v := .ref (c 10)) (C := RX9) (T := TX9) (N := 38) hx hb hts hin9 hown hK hP 0 rfl rfl 10 (by decide) (hts (.fieldLink RX9 17 "BlockLogModel" "slots" "[I") (by decide +kernel)) (fun _ h9 => h9) rfl dX9_block_355 ?_
                                      refine lv_iload hx hb dX9_block_358 (lv_at hl 0 rfl) ?_
                                      refine va_iald (f := ai 10) hx hb hK hP 3 2 rfl rfl (iv_in (i := l14_345) (by omega) (by omega)) dX9_block_360 ?_
                                      refine lv_topi (fun v_49 ev_49 => ?_)
                                      clear ev_49
                                      refine lv_iconst (v := 0) hx hb dX9_block_361 (by decide) ?_
                                      refine lv_aload_n hx hb dX9_block_362 rfl (lv_at hl 9 rfl) ?_
                                      refine va_get (D := (dC, dI)) (ci := 11) (v := .ref (c 11)) (C := RX9) (T := TX9) (N := 38) hx hb hts hin9 hown hK hP 0 rfl rfl 11 (by decide) (hts (.fieldLink RX9 20 "BlockLogModel" "leaves" "[J") (by decide +kernel)) (fun _ h9 => h9) rfl dX9_block_363 ?_
                                      refine lv_iload hx hb dX9_block_366 (lv_at hl 0 rfl) ?_
                                      refine va_lald (f := al 11) hx hb hK hP 4 3 rfl rfl (iv_in (i := l14_345) (by omega) (by omega)) dX9_block_368 ?_
                                      refine lv_topl (fun w_50 ew_50 => ?_)
                                      clear ew_50
                                      have hFc := vfree (rw_D hD : va_D A (rw_W o c kc (rU (rU (rU (rU (rU (rU (rU (rU (rU (rU (rU (rU st 3 s3_345) 4 s4_345) 5 s5_345) 6 s6_345) 12 s12_345) 13 jt_1) 16 x16_2) 17 x17_2) 21 x21_2) 22 x22_2) 24 x24_2) 26 x26_2) (rU (rU lg 23 y23_2) 27 y27_2) (rU (rU (rU (rU (rU ai 0 a0_345) 14 a14_345) 19 f19_2) 20 f20_2) 25 f25_2) (rU al 18 g18_2))) hS hA
                                      refine va_callv (va_runV (As := [.int (3 : Int32), .int v_49, .int (0 : Int32), .long w_50]) (rest := []) ⟨hx, hb, hml, hown, hts⟩ (v_X9_layRow l dC dI o c kc (rU (rU (rU (rU (rU (rU (rU (rU (rU (rU (rU (rU st 3 s3_345) 4 s4_345) 5 s5_345) 6 s6_345) 12 s12_345) 13 jt_1) 16 x16_2) 17 x17_2) 21 x21_2) 22 x22_2) 24 x24_2) 26 x26_2) (rU (rU lg 23 y23_2) 27 y27_2) (rU (rU (rU (rU (rU ai 0 a0_345) 14 a14_345) 19 f19_2) 20 f20_2) 25 f25_2) (rU al 18 g18_2) (3 : Int32) v_49 (0 : Int32) w_50 _ ) (cwV 4 hts gX9_block_X9_layRow rfl rfl rfl (by decide +kernel) ⟨Nat.le_of_ble_eq_true rfl, Nat.le_of_ble_eq_true rfl⟩) ⟨fun a U g mk q => by obtain ⟨q0, q1, qP, qK, qD⟩ := q; exact ⟨q0, q1, qP, va_K.moved (u := U) (U := U.calling g mk a) (Vm.Alike.refl U.vm) qK, qD⟩, va_recv hK hP (ci := 11) (q := (RX9, TX9, 38)) rfl (q0 := 0) rfl, fun U hU hW => ⟨rfl, by rw [hU], by rw [hU]; exact hP, va_K.moved hW.alike hK, rw_D (hD.weaken (fun _ _ _ _ => trivial))⟩⟩ rfl rfl hl.1 rfl (lv_room (Nat.le_of_ble_eq_true rfl)) dX9_block_369 ⟨Nat.le_of_ble_eq_true rfl, Nat.le_of_ble_eq_true rfl⟩) hS (fun q _ h => hFc q h) hFc (fun ur_51 t H1 locs ht hvm er_51 hB hz1 hk1 hS => ?_)
                                      obtain ⟨f14_51, hP1⟩ := hB
                                      rw [ht] at hP1
                                      clear hFc hz1 hk1 hvm hP
                                      subst ht
                                      have hP := hP1
                                      clear hP1
                                      generalize t.heap = H at hP hS ⊢
                                      have hP : va_P (dC, dI) vwCl (rw_W o c kc (rU (rU (rU (rU (rU (rU (rU (rU (rU (rU (rU (rU st 3 s3_345) 4 s4_345) 5 s5_345) 6 s6_345) 12 s12_345) 13 jt_1) 16 x16_2) 17 x17_2) 21 x21_2) 22 x22_2) 24 x24_2) 26 x26_2) (rU (rU lg 23 y23_2) 27 y27_2) (rU (rU (rU (rU (rU ai 0 a0_345) 14 f14_51) 19 f19_2) 20 f20_2) 25 f25_2) (rU al 18 g18_2)) H := hP
                                      refine lv_aload_n hx hb dX9_block_372 rfl (lv_at hl 9 rfl) ?_
                                      refine lv_aload_n hx hb dX9_block_373 rfl (lv_at hl 9 rfl) ?_
                                      refine lv_aload_n hx hb dX9_block_374 rfl (lv_at hl 9 rfl) ?_
                                      refine va_get (D := (dC, dI)) (ci := 11) (v := .int (st 7)) (C := RX9) (T := TX9) (N := 38) hx hb hts hin9 hown hK hP 0 rfl rfl 7 (by decide) (hts (.fieldLink RX9 76 "BlockLogModel" "area" "I") (by decide +kernel)) (fun _ h9 => h9) rfl dX9_block_375 ?_
                                      refine lv_aload_n hx hb dX9_block_378 rfl (lv_at hl 9 rfl) ?_
                                      refine va_get (D := (dC, dI)) (ci := 11) (v := .int x16_2) (C := RX9) (T := TX9) (N := 38) hx hb hts hin9 hown hK hP 0 rfl rfl 16 (by decide) (hts (.fieldLink RX9 167 "BlockLogModel" "many" "I") (by decide +kernel)) (fun _ h9 => h9) rfl dX9_block_379 ?_
                                      refine lv_iconst (v := 1) hx hb dX9_block_382 (by decide) ?_
                                      refine lv_iadd hx hb dX9_block_383 ?_
                                      refine lv_topi (fun v_52 ev_52 => ?_)
                                      have hv_52 : v_52.toInt = x16_2.toInt + 1 := by rw [ev_52]; exact (iv_add (by omega) (by omega)).trans (by omega)
                                      clear ev_52
                                      refine lv_iload hx hb dX9_block_384 (lv_at hl 0 rfl) ?_
                                      refine lv_iadd hx hb dX9_block_386 ?_
                                      refine lv_topi (fun v_53 ev_53 => ?_)
                                      have rg5 := iv_rng v_52
                                      have rg6 := iv_rng l14_345
                                      have hv_53 : v_53.toInt = v_52.toInt + l14_345.toInt := by rw [ev_53]; exact (iv_add (by omega) (by omega)).trans (by omega)
                                      clear ev_53
                                      refine vp_callSi (va_Run.run (va_runV (As := [.int (st 7), .int v_53]) (rest := [.ref o]) ⟨hx, hb, hml, hown, hts⟩ (v_X9_rowPlace l dC dI o c kc (rU (rU (rU (rU (rU (rU (rU (rU (rU (rU (rU (rU st 3 s3_345) 4 s4_345) 5 s5_345) 6 s6_345) 12 s12_345) 13 jt_1) 16 x16_2) 17 x17_2) 21 x21_2) 22 x22_2) 24 x24_2) 26 x26_2) (rU (rU lg 23 y23_2) 27 y27_2) (rU (rU (rU (rU (rU ai 0 a0_345) 14 f14_51) 19 f19_2) 20 f20_2) 25 f25_2) (rU al 18 g18_2) (st 7) v_53 (by omega) (by omega) (by omega) (by omega)) (cwV 2 hts gX9_block_X9_rowPlace rfl rfl rfl (by decide +kernel) ⟨Nat.le_of_ble_eq_true rfl, Nat.le_of_ble_eq_true rfl⟩) ⟨fun a U g mk q => by obtain ⟨q0, qP, qK⟩ := q; exact ⟨q0, qP, va_K.moved (u := U) (U := U.calling g mk a) (Vm.Alike.refl U.vm) qK⟩, va_recv hK hP (ci := 11) (q := (RX9, TX9, 38)) rfl (q0 := 0) rfl, fun U hU hW => ⟨rfl, by rw [hU]; exact hP, va_K.moved hW.alike hK⟩⟩ rfl rfl hl.1 rfl (lv_room (Nat.le_of_ble_eq_true rfl)) dX9_block_387 ⟨Nat.le_of_ble_eq_true rfl, Nat.le_of_ble_eq_true rfl⟩)) (fun r_54 er_54 => ?_)
                                      have k_55 := er_54
                                      refine lv_bipush (v := 32) hx hb dX9_block_390 (by decide) ?_
                                      have hFc := vfree (rw_D hD : va_D A (rw_W o c kc (rU (rU (rU (rU (rU (rU (rU (rU (rU (rU (rU (rU st 3 s3_345) 4 s4_345) 5 s5_345) 6 s6_345) 12 s12_345) 13 jt_1) 16 x16_2) 17 x17_2) 21 x21_2) 22 x22_2) 24 x24_2) 26 x26_2) (rU (rU lg 23 y23_2) 27 y27_2) (rU (rU (rU (rU (rU ai 0 a0_345) 14 f14_51) 19 f19_2) 20 f20_2) 25 f25_2) (rU al 18 g18_2))) hS hA
                                      refine va_callv (va_runV (As := [.int r_54, .int (32 : Int32)]) (rest := []) ⟨hx, hb, hml, hown, hts⟩ (v_X9_writeFresh l dC dI o c kc (rU (rU (rU (rU (rU (rU (rU (rU (rU (rU (rU (rU st 3 s3_345) 4 s4_345) 5 s5_345) 6 s6_345) 12 s12_345) 13 jt_1) 16 x16_2) 17 x17_2) 21 x21_2) 22 x22_2) 24 x24_2) 26 x26_2) (rU (rU lg 23 y23_2) 27 y27_2) (rU (rU (rU (rU (rU ai 0 a0_345) 14 f14_51) 19 f19_2) 20 f20_2) 25 f25_2) (rU al 18 g18_2) r_54 (32 : Int32) _ (show 0 ≤ s3_345.toInt by omega) (show s3_345.toInt ≤ 1 by omega) (show 0 ≤ s6_345.toInt by omega) (show s6_345.toInt ≤ 1 by omega) (show 0 ≤ s12_345.toInt by omega) (show s12_345.toInt ≤ 8 by omega) (by omega) (by omega) (by omega) (by omega)) (cwV 2 hts gX9_block_X9_writeFresh rfl rfl rfl (by decide +kernel) ⟨Nat.le_of_ble_eq_true rfl, Nat.le_of_ble_eq_true rfl⟩) ⟨fun a U g mk q => by obtain ⟨q0, q1, qP, qK, qD⟩ := q; exact ⟨q0, q1, qP, va_K.moved (u := U) (U := U.calling g mk a) (Vm.Alike.refl U.vm) qK, qD⟩, va_recv hK hP (ci := 11) (q := (RX9, TX9, 38)) rfl (q0 := 0) rfl, fun U hU hW => ⟨rfl, by rw [hU], by rw [hU]; exact hP, va_K.moved hW.alike hK, rw_D (hD.weaken (fun _ _ _ _ => trivial))⟩⟩ rfl rfl hl.1 rfl (lv_room (Nat.le_of_ble_eq_true rfl)) dX9_block_392 ⟨Nat.le_of_ble_eq_true rfl, Nat.le_of_ble_eq_true rfl⟩) hS (fun q _ h => hFc q h) hFc (fun ur_56 t H1 locs ht hvm er_56 hB hz1 hk1 hS => ?_)
                                      obtain ⟨x3_56, x4_56, x5_56, x6_56, x12_56, f0_56, k_57, k_58, k_59, k_60, k_61, k_62, hP1⟩ := hB
                                      rw [ht] at hP1
                                      clear hFc hz1 hk1 hvm hP
                                      subst ht
                                      have hP := hP1
                                      clear hP1
                                      generalize t.heap = H at hP hS ⊢
                                      have hP : va_P (dC, dI) vwCl (rw_W o c kc (rU (rU (rU (rU (rU (rU (rU (rU (rU (rU (rU (rU st 3 x3_56) 4 x4_56) 5 x5_56) 6 x6_56) 12 x12_56) 13 jt_1) 16 x16_2) 17 x17_2) 21 x21_2) 22 x22_2) 24 x24_2) 26 x26_2) (rU (rU lg 23 y23_2) 27 y27_2) (rU (rU (rU (rU (rU ai 0 f0_56) 14 f14_51) 19 f19_2) 20 f20_2) 25 f25_2) (rU al 18 g18_2)) H := hP
                                      have k_57 : 0 ≤ x3_56.toInt := k_57
                                      have k_58 : x3_56.toInt ≤ 1 := k_58
                                      have k_59 : 0 ≤ x6_56.toInt := k_59
                                      have k_60 : x6_56.toInt ≤ 1 := k_60
                                      have k_61 : 0 ≤ x12_56.toInt := k_61
                                      have k_62 : x12_56.toInt ≤ 8 := k_62
                                      obtain ⟨x_63, ex_63⟩ : ∃ z : Int32, z = l14_345 + (1) := ⟨_, rfl⟩
                                      refine lv_iinc (v := x_63) (lv' := [(14, .int x_63), (13, .int (st 12)), (12, .int r_28), (10, .long l10_217), (9, .int jt_153), (8, .int jt_113), (7, .int jt_83), (6, .int jt_60), (4, .long r_21), (0, .ref o), (1, .int p0), (2, .long p1)]) hx hb dX9_block_395 hl (k := 0) rfl (by rw [ex_63]; rfl) (by decide) rfl (fun ls hl => ?_)
                                      have hx_63 : x_63.toInt = l14_345.toInt + (1) := by rw [ex_63]; exact (iv_add (by omega) (by omega)).trans (by omega)
                                      clear ex_63
                                      refine lv_goto (tgt := 345) hx hb dX9_block_398 (by decide) ?_
                                      exact ih345 x_63 x3_56 x4_56 x5_56 x6_56 x12_56 f0_56 f14_51 _ _ _ (by omega) (by omega) (by omega) (by omega) (by omega) (by omega) (by omega) (by omega) (by omega) hP hS (lv_sub hl [0, 1, 2, 3, 4, 5, 6, 7, 8, 9, 10, 11] rfl)
                                exact loop345 (((st 12).toInt - 0 : Int).toNat + 1) (0 : Int32) x3_38 x4_38 x5_38 x6_38 x12_38 f0_38 f14_35 _ _ _ (by omega) (by omega) (by omega) (by omega) (by omega) (by omega) (by omega) (by omega) (by omega) hP hS (lv_sub hl [0, 1, 2, 3, 4, 5, 6, 7, 8, 9, 10, 11] rfl)
                              · skip
                                have ic_34 := iv_nle c_34
                                refine lv_bipush (v := (-2)) hx hb dX9_block_305 (by decide) ?_
                                exact W.iret hx hb hr (fun t ht hW => ⟨⟨_, _, rfl, rfl, st 3, st 4, st 5, st 6, st 12, jt_1, st 15, x16_2, x17_2, x21_2, x22_2, x24_2, x26_2, y23_2, y27_2, ai 0, ai 14, f19_2, f20_2, f25_2, g18_2, (by omega), (by omega), (by omega), (by omega), (by omega), (by omega), (by omega), (by omega), (by omega), (by omega), (by omega), (by omega), (by omega), (by omega), (by omega), (by omega), (by omega), (by omega), (by omega), (by omega), hR25, by rw [ht]; exact hP⟩, hS.F ht⟩) hS.2.2 dX9_block_307
                            · skip
                              have ic_31 := iv_ne c_31
                              refine lv_aload_n hx hb dX9_block_280 rfl (lv_at hl 7 rfl) ?_
                              refine lv_iconst (v := 0) hx hb dX9_block_281 (by decide) ?_
                              refine va_put (D := (dC, dI)) (ci := 11) (v := .int (0 : Int32)) (ty := .int) (C := RX9) (T := TX9) (N := 38) hx hb hts hin9 tyX9 tyX9_ok nmX9 hown hK hP (rw_D hD) hS 0 rfl rfl 12 (by decide) (hts (.fieldLink RX9 111 "BlockLogModel" "collected" "I") (by decide +kernel)) (fun _ h9 => h9) rfl (by decide +kernel) rfl rfl (Nat.le_of_ble_eq_true rfl) dX9_block_282 (fun H locs hP _ hS => ?_)
                              have hP : va_P (dC, dI) vwCl (rw_W o c kc (rU (rU (rU (rU (rU (rU (rU (rU st 12 (0 : Int32)) 13 jt_1) 16 x16_2) 17 x17_2) 21 x21_2) 22 x22_2) 24 x24_2) 26 x26_2) (rU (rU lg 23 y23_2) 27 y27_2) (rU (rU (rU ai 19 f19_2) 20 f20_2) 25 f25_2) (rU al 18 g18_2)) H := hP
                              refine lv_iload hx hb dX9_block_285 (lv_at hl 0 rfl) ?_
                              exact W.iret hx hb hr (fun t ht hW => ⟨⟨_, _, rfl, rfl, st 3, st 4, st 5, st 6, (0 : Int32), jt_1, st 15, x16_2, x17_2, x21_2, x22_2, x24_2, x26_2, y23_2, y27_2, ai 0, ai 14, f19_2, f20_2, f25_2, g18_2, (by omega), (by omega), (by omega), (by omega), (by omega), (by omega), (by omega), (by omega), (by omega), (by omega), (by omega), (by omega), (by omega), (by omega), (by omega), (by omega), (by omega), (by omega), (by omega), (by omega), hR25, by rw [ht]; exact hP⟩, hS.F ht⟩) hS.2.2 dX9_block_287
                          · skip
                            have ic_27 := iv_nle c_27
                            refine lv_aload_n hx hb dX9_block_226 rfl (lv_at hl 7 rfl) ?_
                            refine lv_aload_n hx hb dX9_block_227 rfl (lv_at hl 7 rfl) ?_
                            refine lv_lload hx hb dX9_block_228 (lv_at hl 1 rfl) ?_
                            refine lv_aload_n hx hb dX9_block_230 rfl (lv_at hl 7 rfl) ?_
                            refine va_get (D := (dC, dI)) (ci := 11) (v := .ref (c 10)) (C := RX9) (T := TX9) (N := 38) hx hb hts hin9 hown hK hP 0 rfl rfl 10 (by decide) (hts (.fieldLink RX9 17 "BlockLogModel" "slots" "[I") (by decide +kernel)) (fun _ h9 => h9) rfl dX9_block_231 ?_
                            refine lv_iload hx hb dX9_block_234 (lv_at hl 0 rfl) ?_
                            refine va_iald (f := ai 10) hx hb hK hP 3 2 rfl rfl (iv_in (i := l12_217) (by omega) (by omega)) dX9_block_236 ?_
                            refine lv_topi (fun v_64 ev_64 => ?_)
                            clear ev_64
                            refine lv_i2l hx hb dX9_block_237 rfl ?_
                            refine lv_topl (fun w_65 ew_65 => ?_)
                            clear ew_65
                            refine lv_iconst (v := 4) hx hb dX9_block_238 (by decide) ?_
                            refine vp_callSl (va_Run.run (va_runV (As := [.long l10_217, .long w_65, .int (4 : Int32)]) (rest := [.ref o]) ⟨hx, hb, hml, hown, hts⟩ (v_X9_numberSum l dC dI o c kc (rU (rU (rU (rU (rU (rU (rU st 13 jt_1) 16 x16_2) 17 x17_2) 21 x21_2) 22 x22_2) 24 x24_2) 26 x26_2) (rU (rU lg 23 y23_2) 27 y27_2) (rU (rU (rU ai 19 f19_2) 20 f20_2) 25 f25_2) (rU al 18 g18_2) l10_217 w_65 (4 : Int32) (by omega) (by omega)) (cwV 3 hts gX9_block_X9_numberSum rfl rfl rfl (by decide +kernel) ⟨Nat.le_of_ble_eq_true rfl, Nat.le_of_ble_eq_true rfl⟩) ⟨fun a U g mk q => by obtain ⟨q0, qP, qK⟩ := q; exact ⟨q0, qP, va_K.moved (u := U) (U := U.calling g mk a) (Vm.Alike.refl U.vm) qK⟩, va_recv hK hP (ci := 11) (q := (RX9, TX9, 38)) rfl (q0 := 0) rfl, fun U hU hW => ⟨rfl, by rw [hU]; exact hP, va_K.moved hW.alike hK⟩⟩ rfl rfl hl.1 rfl (lv_room (Nat.le_of_ble_eq_true rfl)) dX9_block_239 ⟨Nat.le_of_ble_eq_true rfl, Nat.le_of_ble_eq_true rfl⟩)) (fun r_66 er_66 => ?_)
                            refine lv_aload_n hx hb dX9_block_242 rfl (lv_at hl 7 rfl) ?_
                            refine va_get (D := (dC, dI)) (ci := 11) (v := .ref (c 11)) (C := RX9) (T := TX9) (N := 38) hx hb hts hin9 hown hK hP 0 rfl rfl 11 (by decide) (hts (.fieldLink RX9 20 "BlockLogModel" "leaves" "[J") (by decide +kernel)) (fun _ h9 => h9) rfl dX9_block_243 ?_
                            refine lv_iload hx hb dX9_block_246 (lv_at hl 0 rfl) ?_
                            refine va_lald (f := al 11) hx hb hK hP 4 3 rfl rfl (iv_in (i := l12_217) (by omega) (by omega)) dX9_block_248 ?_
                            refine lv_topl (fun w_67 ew_67 => ?_)
                            clear ew_67
                            refine lv_bipush (v := 8) hx hb dX9_block_249 (by decide) ?_
                            refine vp_callSl (va_Run.run (va_runV (As := [.long r_66, .long w_67, .int (8 : Int32)]) (rest := []) ⟨hx, hb, hml, hown, hts⟩ (v_X9_numberSum l dC dI o c kc (rU (rU (rU (rU (rU (rU (rU st 13 jt_1) 16 x16_2) 17 x17_2) 21 x21_2) 22 x22_2) 24 x24_2) 26 x26_2) (rU (rU lg 23 y23_2) 27 y27_2) (rU (rU (rU ai 19 f19_2) 20 f20_2) 25 f25_2) (rU al 18 g18_2) r_66 w_67 (8 : Int32) (by omega) (by omega)) (cwV 3 hts gX9_block_X9_numberSum rfl rfl rfl (by decide +kernel) ⟨Nat.le_of_ble_eq_true rfl, Nat.le_of_ble_eq_true rfl⟩) ⟨fun a U g mk q => by obtain ⟨q0, qP, qK⟩ := q; exact ⟨q0, qP, va_K.moved (u := U) (U := U.calling g mk a) (Vm.Alike.refl U.vm) qK⟩, va_recv hK hP (ci := 11) (q := (RX9, TX9, 38)) rfl (q0 := 0) rfl, fun U hU hW => ⟨rfl, by rw [hU]; exact hP, va_K.moved hW.alike hK⟩⟩ rfl rfl hl.1 rfl (lv_room (Nat.le_of_ble_eq_true rfl)) dX9_block_251 ⟨Nat.le_of_ble_eq_true rfl, Nat.le_of_ble_eq_true rfl⟩)) (fun r_68 er_68 => ?_)
                            refine lv_lstore (lv' := [(10, .long r_68), (12, .int l12_217), (9, .int jt_153), (8, .int jt_113), (7, .int jt_83), (6, .int jt_60), (4, .long r_21), (0, .ref o), (1, .int p0), (2, .long p1)]) hx hb dX9_block_254 hl (by decide) rfl (fun ls hl => ?_)
                            obtain ⟨x_69, ex_69⟩ : ∃ z : Int32, z = l12_217 + (1) := ⟨_, rfl⟩
                            refine lv_iinc (v := x_69) (lv' := [(12, .int x_69), (10, .long r_68), (9, .int jt_153), (8, .int jt_113), (7, .int jt_83), (6, .int jt_60), (4, .long r_21), (0, .ref o), (1, .int p0), (2, .long p1)]) hx hb dX9_block_256 hl (k := 1) rfl (by rw [ex_69]; rfl) (by decide) rfl (fun ls hl => ?_)
                            have rg7 := iv_rng l12_217
                            have hx_69 : x_69.toInt = l12_217.toInt + (1) := by rw [ex_69]; exact (iv_add (by omega) (by omega)).trans (by omega)
                            clear ex_69
                            refine lv_goto (tgt := 217) hx hb dX9_block_259 (by decide) ?_
                            exact ih217 x_69 r_68 _ _ _ (by omega) (by omega) (by omega) hP hS (lv_sub hl [0, 1, 2, 3, 4, 5, 6, 7, 8, 9] rfl)
                      exact loop217 (((st 12).toInt - 0 : Int).toNat + 1) (0 : Int32) r_26 _ _ _ (by omega) (by omega) (by omega) hP hS (lv_sub hl [0, 1, 2, 3, 4, 5, 6, 7, 8, 9] rfl)
                    · skip
                      have ic_23 := iv_ne c_23
                      refine lv_bipush (v := (-10)) hx hb dX9_block_191 (by decide) ?_
                      exact W.iret hx hb hr (fun t ht hW => ⟨⟨_, _, rfl, rfl, st 3, st 4, st 5, st 6, st 12, jt_1, st 15, x16_2, x17_2, x21_2, x22_2, x24_2, x26_2, y23_2, y27_2, ai 0, ai 14, f19_2, f20_2, f25_2, g18_2, (by omega), (by omega), (by omega), (by omega), (by omega), (by omega), (by omega), (by omega), (by omega), (by omega), (by omega), (by omega), (by omega), (by omega), (by omega), (by omega), (by omega), (by omega), (by omega), (by omega), hR25, by rw [ht]; exact hP⟩, hS.F ht⟩) hS.2.2 dX9_block_193
                  refine lv_iload hx hb dX9_block_153 (lv_at hl 2 rfl) ?_
                  refine lv_iconst (v := (-1)) hx hb dX9_block_155 (by decide) ?_
                  refine lv_icmp_eq (tgt := 168) hx hb dX9_block_156 (by decide) (fun c_70 => ?_) (fun c_70 => ?_)
                  · skip
                    have ic_70 := iv_eq c_70
                    refine lv_iload hx hb dX9_block_168 (lv_at hl 1 rfl) ?_
                    refine lv_if_eq (tgt := 180) hx hb dX9_block_170 (by decide) (fun c_71 => ?_) (fun c_71 => ?_)
                    · skip
                      have ic_71 := iv_eq c_71
                      refine lv_iconst (v := 0) hx hb dX9_block_180 (by decide) ?_
                      exact join153 (0 : Int32) _ _ _ hP hS (lv_sub hl [0, 1, 2, 3, 4, 5, 6] rfl)
                    · skip
                      have ic_71 := iv_ne c_71
                      refine lv_aload_n hx hb dX9_block_173 rfl (lv_at hl 4 rfl) ?_
                      refine va_get (D := (dC, dI)) (ci := 11) (v := .int x22_2) (C := RX9) (T := TX9) (N := 38) hx hb hts hin9 hown hK hP 0 rfl rfl 22 (by decide) (hts (.fieldLink RX9 182 "BlockLogModel" "baseHeight" "I") (by decide +kernel)) (fun _ h9 => h9) rfl dX9_block_174 ?_
                      refine lv_goto (tgt := 181) hx hb dX9_block_177 (by decide) ?_
                      exact join153 x22_2 _ _ _ hP hS (lv_sub hl [0, 1, 2, 3, 4, 5, 6] rfl)
                  · skip
                    have ic_70 := iv_ne c_70
                    refine lv_aload_n hx hb dX9_block_159 rfl (lv_at hl 4 rfl) ?_
                    refine lv_iload hx hb dX9_block_160 (lv_at hl 2 rfl) ?_
                    refine vp_callSi (va_Run.run (va_runV (As := [.int jt_60]) (rest := []) ⟨hx, hb, hml, hown, hts⟩ (v_X9_aOf l dC dI o c kc (rU (rU (rU (rU (rU (rU (rU st 13 jt_1) 16 x16_2) 17 x17_2) 21 x21_2) 22 x22_2) 24 x24_2) 26 x26_2) (rU (rU lg 23 y23_2) 27 y27_2) (rU (rU (rU ai 19 f19_2) 20 f20_2) 25 f25_2) (rU al 18 g18_2) jt_60 (show 0 ≤ (st 7).toInt by omega) (show (st 7).toInt ≤ 1 by omega) (by omega) (by omega)) (cwV 1 hts gX9_block_X9_aOf rfl rfl rfl (by decide +kernel) ⟨Nat.le_of_ble_eq_true rfl, Nat.le_of_ble_eq_true rfl⟩) ⟨fun a U g mk q => by obtain ⟨q0, qP, qK⟩ := q; exact ⟨q0, qP, va_K.moved (u := U) (U := U.calling g mk a) (Vm.Alike.refl U.vm) qK⟩, va_recv hK hP (ci := 11) (q := (RX9, TX9, 38)) rfl (q0 := 0) rfl, fun U hU hW => ⟨rfl, by rw [hU]; exact hP, va_K.moved hW.alike hK⟩⟩ rfl rfl hl.1 rfl (lv_room (Nat.le_of_ble_eq_true rfl)) dX9_block_162 ⟨Nat.le_of_ble_eq_true rfl, Nat.le_of_ble_eq_true rfl⟩)) (fun r_72 er_72 => ?_)
                    have k_73 := er_72
                    have k_73 : r_72.toInt = (rA (ai 0) (st 7) jt_60).toInt := k_73
                    refine lv_goto (tgt := 181) hx hb dX9_block_165 (by decide) ?_
                    exact join153 r_72 _ _ _ hP hS (lv_sub hl [0, 1, 2, 3, 4, 5, 6] rfl)
                refine lv_iload hx hb dX9_block_134 (lv_at hl 2 rfl) ?_
                refine lv_iconst (v := (-1)) hx hb dX9_block_136 (by decide) ?_
                refine lv_icmp_ne (tgt := 153) hx hb dX9_block_137 (by decide) (fun c_74 => ?_) (fun c_74 => ?_)
                · skip
                  have ic_74 := iv_ne c_74
                  exact join134 _ _ _ hP hS (lv_sub hl [0, 1, 2, 3, 4, 5, 6] rfl)
                · skip
                  have ic_74 := iv_eq c_74
                  refine lv_iload hx hb dX9_block_140 (lv_at hl 1 rfl) ?_
                  refine lv_if_ne (tgt := 153) hx hb dX9_block_142 (by decide) (fun c_75 => ?_) (fun c_75 => ?_)
                  · skip
                    have ic_75 := iv_ne c_75
                    exact join134 _ _ _ hP hS (lv_sub hl [0, 1, 2, 3, 4, 5, 6] rfl)
                  · skip
                    have ic_75 := iv_eq c_75
                    refine lv_iload hx hb dX9_block_145 (lv_at hl 0 rfl) ?_
                    refine lv_if_ne (tgt := 153) hx hb dX9_block_147 (by decide) (fun c_76 => ?_) (fun c_76 => ?_)
                    · skip
                      have ic_76 := iv_ne c_76
                      exact join134 _ _ _ hP hS (lv_sub hl [0, 1, 2, 3, 4, 5, 6] rfl)
                    · skip
                      have ic_76 := iv_eq c_76
                      refine lv_bipush (v := (-6)) hx hb dX9_block_150 (by decide) ?_
                      exact W.iret hx hb hr (fun t ht hW => ⟨⟨_, _, rfl, rfl, st 3, st 4, st 5, st 6, st 12, jt_1, st 15, x16_2, x17_2, x21_2, x22_2, x24_2, x26_2, y23_2, y27_2, ai 0, ai 14, f19_2, f20_2, f25_2, g18_2, (by omega), (by omega), (by omega), (by omega), (by omega), (by omega), (by omega), (by omega), (by omega), (by omega), (by omega), (by omega), (by omega), (by omega), (by omega), (by omega), (by omega), (by omega), (by omega), (by omega), hR25, by rw [ht]; exact hP⟩, hS.F ht⟩) hS.2.2 dX9_block_152
              refine lv_lload hx hb dX9_block_113 (lv_at hl 2 rfl) ?_
              refine lv_lconst (v := 0) hx hb dX9_block_115 (by decide) ?_
              refine W.lcmp hx hb dX9_block_116 ?_
              refine lv_topi (fun v_77 ev_77 => ?_)
              clear ev_77
              refine lv_if_ne (tgt := 131) hx hb dX9_block_117 (by decide) (fun c_78 => ?_) (fun c_78 => ?_)
              · skip
                have ic_78 := iv_ne c_78
                refine lv_iconst (v := 0) hx hb dX9_block_131 (by decide) ?_
                exact join113 (0 : Int32) _ _ _ (by omega) (by omega) hP hS (lv_sub hl [0, 1, 2, 3, 4, 5] rfl)
              · skip
                have ic_78 := iv_eq c_78
                refine lv_aload_n hx hb dX9_block_120 rfl (lv_at hl 3 rfl) ?_
                refine va_get (D := (dC, dI)) (ci := 11) (v := .int x24_2) (C := RX9) (T := TX9) (N := 38) hx hb hts hin9 hown hK hP 0 rfl rfl 24 (by decide) (hts (.fieldLink RX9 189 "BlockLogModel" "hasBase" "Z") (by decide +kernel)) (fun _ h9 => h9) rfl dX9_block_121 ?_
                refine lv_if_ne (tgt := 131) hx hb dX9_block_124 (by decide) (fun c_79 => ?_) (fun c_79 => ?_)
                · skip
                  have ic_79 := iv_ne c_79
                  refine lv_iconst (v := 0) hx hb dX9_block_131 (by decide) ?_
                  exact join113 (0 : Int32) _ _ _ (by omega) (by omega) hP hS (lv_sub hl [0, 1, 2, 3, 4, 5] rfl)
                · skip
                  have ic_79 := iv_eq c_79
                  refine lv_iconst (v := 1) hx hb dX9_block_127 (by decide) ?_
                  refine lv_goto (tgt := 132) hx hb dX9_block_128 (by decide) ?_
                  exact join113 (1 : Int32) _ _ _ (by omega) (by omega) hP hS (lv_sub hl [0, 1, 2, 3, 4, 5] rfl)
            refine lv_iload hx hb dX9_block_83 (lv_at hl 0 rfl) ?_
            refine lv_iconst (v := (-1)) hx hb dX9_block_85 (by decide) ?_
            refine lv_icmp_ne (tgt := 110) hx hb dX9_block_86 (by decide) (fun c_80 => ?_) (fun c_80 => ?_)
            · skip
              have ic_80 := iv_ne c_80
              refine lv_iconst (v := 0) hx hb dX9_block_110 (by decide) ?_
              exact join83 (0 : Int32) _ _ _ (by omega) (by omega) hP hS (lv_sub hl [0, 1, 2, 3, 4] rfl)
            · skip
              have ic_80 := iv_eq c_80
              refine lv_aload_n hx hb dX9_block_89 rfl (lv_at hl 2 rfl) ?_
              refine va_get (D := (dC, dI)) (ci := 11) (v := .int x24_2) (C := RX9) (T := TX9) (N := 38) hx hb hts hin9 hown hK hP 0 rfl rfl 24 (by decide) (hts (.fieldLink RX9 189 "BlockLogModel" "hasBase" "Z") (by decide +kernel)) (fun _ h9 => h9) rfl dX9_block_90 ?_
              refine lv_if_eq (tgt := 110) hx hb dX9_block_93 (by decide) (fun c_81 => ?_) (fun c_81 => ?_)
              · skip
                have ic_81 := iv_eq c_81
                refine lv_iconst (v := 0) hx hb dX9_block_110 (by decide) ?_
                exact join83 (0 : Int32) _ _ _ (by omega) (by omega) hP hS (lv_sub hl [0, 1, 2, 3, 4] rfl)
              · skip
                have ic_81 := iv_ne c_81
                refine lv_lload hx hb dX9_block_96 (lv_at hl 1 rfl) ?_
                refine lv_aload_n hx hb dX9_block_98 rfl (lv_at hl 2 rfl) ?_
                refine va_get (D := (dC, dI)) (ci := 11) (v := .long y23_2) (C := RX9) (T := TX9) (N := 38) hx hb hts hin9 hown hK hP 0 rfl rfl 23 (by decide) (hts (.fieldLink RX9 185 "BlockLogModel" "baseDigest" "J") (by decide +kernel)) (fun _ h9 => h9) rfl dX9_block_99 ?_
                refine W.lcmp hx hb dX9_block_102 ?_
                refine lv_topi (fun v_82 ev_82 => ?_)
                clear ev_82
                refine lv_if_ne (tgt := 110) hx hb dX9_block_103 (by decide) (fun c_83 => ?_) (fun c_83 => ?_)
                · skip
                  have ic_83 := iv_ne c_83
                  refine lv_iconst (v := 0) hx hb dX9_block_110 (by decide) ?_
                  exact join83 (0 : Int32) _ _ _ (by omega) (by omega) hP hS (lv_sub hl [0, 1, 2, 3, 4] rfl)
                · skip
                  have ic_83 := iv_eq c_83
                  refine lv_iconst (v := 1) hx hb dX9_block_106 (by decide) ?_
                  refine lv_goto (tgt := 111) hx hb dX9_block_107 (by decide) ?_
                  exact join83 (1 : Int32) _ _ _ (by omega) (by omega) hP hS (lv_sub hl [0, 1, 2, 3, 4] rfl)
          refine lv_lload hx hb dX9_block_60 (lv_at hl 0 rfl) ?_
          refine lv_lconst (v := 0) hx hb dX9_block_62 (by decide) ?_
          refine W.lcmp hx hb dX9_block_63 ?_
          refine lv_topi (fun v_84 ev_84 => ?_)
          clear ev_84
          refine lv_if_ne (tgt := 71) hx hb dX9_block_64 (by decide) (fun c_85 => ?_) (fun c_85 => ?_)
          · skip
            have ic_85 := iv_ne c_85
            refine lv_aload_n hx hb dX9_block_71 rfl (lv_at hl 1 rfl) ?_
            refine lv_lload hx hb dX9_block_72 (lv_at hl 0 rfl) ?_
            refine lv_aload_n hx hb dX9_block_74 rfl (lv_at hl 1 rfl) ?_
            refine va_get (D := (dC, dI)) (ci := 11) (v := .int x16_2) (C := RX9) (T := TX9) (N := 38) hx hb hts hin9 hown hK hP 0 rfl rfl 16 (by decide) (hts (.fieldLink RX9 167 "BlockLogModel" "many" "I") (by decide +kernel)) (fun _ h9 => h9) rfl dX9_block_75 ?_
            refine vp_callSi (va_Run.run (va_runV (As := [.long r_21, .int x16_2]) (rest := []) ⟨hx, hb, hml, hown, hts⟩ (v_X9_blockRow l dC dI o c kc (rU (rU (rU (rU (rU (rU (rU st 13 jt_1) 16 x16_2) 17 x17_2) 21 x21_2) 22 x22_2) 24 x24_2) 26 x26_2) (rU (rU lg 23 y23_2) 27 y27_2) (rU (rU (rU ai 19 f19_2) 20 f20_2) 25 f25_2) (rU al 18 g18_2) r_21 x16_2 (show 0 ≤ (st 7).toInt by omega) (show (st 7).toInt ≤ 1 by omega) (by omega) (by omega) (show cOK (ai 0) (st 7) x16_2 f20_2 from (by assumption))) (cwV 2 hts gX9_block_X9_blockRow rfl rfl rfl (by decide +kernel) ⟨Nat.le_of_ble_eq_true rfl, Nat.le_of_ble_eq_true rfl⟩) ⟨fun a U g mk q => by obtain ⟨q0, qP, qK⟩ := q; exact ⟨q0, qP, va_K.moved (u := U) (U := U.calling g mk a) (Vm.Alike.refl U.vm) qK⟩, va_recv hK hP (ci := 11) (q := (RX9, TX9, 38)) rfl (q0 := 0) rfl, fun U hU hW => ⟨rfl, by rw [hU]; exact hP, va_K.moved hW.alike hK⟩⟩ rfl rfl hl.1 rfl (lv_room (Nat.le_of_ble_eq_true rfl)) dX9_block_78 ⟨Nat.le_of_ble_eq_true rfl, Nat.le_of_ble_eq_true rfl⟩)) (fun r_86 er_86 => ?_)
            obtain ⟨k_87, k_88, hbk⟩ := er_86
            have hbk : r_86.toInt ≠ -1 → okB (ai 0) (st 7) x16_2 r_86 := hbk
            exact join60 r_86 _ _ _ (by omega) (by omega) hP hS (lv_sub hl [0, 1, 2, 3] rfl)
          · skip
            have ic_85 := iv_eq c_85
            refine lv_iconst (v := (-1)) hx hb dX9_block_67 (by decide) ?_
            refine lv_goto (tgt := 81) hx hb dX9_block_68 (by decide) ?_
            exact join60 (-1 : Int32) _ _ _ (by omega) (by omega) hP hS (lv_sub hl [0, 1, 2, 3] rfl)
        · skip
          have ic_20 := iv_ne c_20
          refine lv_bipush (v := (-3)) hx hb dX9_block_50 (by decide) ?_
          exact W.iret hx hb hr (fun t ht hW => ⟨⟨_, _, rfl, rfl, st 3, st 4, st 5, st 6, st 12, jt_1, st 15, x16_2, x17_2, x21_2, x22_2, x24_2, x26_2, y23_2, y27_2, ai 0, ai 14, f19_2, f20_2, f25_2, g18_2, (by omega), (by omega), (by omega), (by omega), (by omega), (by omega), (by omega), (by omega), (by omega), (by omega), (by omega), (by omega), (by omega), (by omega), (by omega), (by omega), (by omega), (by omega), (by omega), (by omega), hR25, by rw [ht]; exact hP⟩, hS.F ht⟩) hS.2.2 dX9_block_52
      · skip
        have ic_1 := iv_nle c_1
        refine lv_iconst (v := 0) hx hb dX9_block_37 (by decide) ?_
        exact W.iret hx hb hr (fun t ht hW => ⟨⟨_, _, rfl, rfl, st 3, st 4, st 5, st 6, st 12, jt_1, st 15, st 16, st 17, st 21, st 22, st 24, st 26, lg 23, lg 27, ai 0, ai 14, ai 19, ai 20, ai 25, al 18, (by omega), (by omega), (by omega), (by omega), (by omega), (by omega), (by omega), (by omega), (by omega), (by omega), (by omega), (by omega), (by omega), (by omega), (by omega), (by omega), (by omega), (by omega), (by omega), (by omega), hR25, by rw [ht]; exact hP⟩, hS.F ht⟩) hS.2.2 dX9_block_38
    refine lv_aload_n hx hb dX9_block_1 rfl (lv_at hl 0 rfl) ?_
    refine va_get (D := (dC, dI)) (ci := 11) (v := .int (st 3)) (C := RX9) (T := TX9) (N := 38) hx hb hts hin9 hown hK hP 0 rfl rfl 3 (by decide) (hts (.fieldLink RX9 72 "BlockLogModel" "on" "Z") (by decide +kernel)) (fun _ h9 => h9) rfl dX9_block_2 ?_
    refine lv_if_ne (tgt := 12) hx hb dX9_block_5 (by decide) (fun c_89 => ?_) (fun c_89 => ?_)
    · skip
      have ic_89 := iv_ne c_89
      refine lv_iload_n hx hb dX9_block_12 rfl (lv_at hl 1 rfl) ?_
      refine lv_iconst (v := 1) hx hb dX9_block_13 (by decide) ?_
      refine lv_ldc hx hb hown (hts (.constant RX9 208 (1000000)) (by decide +kernel)) dX9_block_14 ?_
      refine vp_callSi (va_Run.run (va_runS (As := [.int p0, .int (1 : Int32), .int (1000000 : Int32)]) (rest := [.ref o]) ⟨hx, hb, hml, hown, hts⟩ (v_X9_within l dC dI p0 (1 : Int32) (1000000 : Int32) ) (va_cwS 3 hts gX9_block_X9_within rfl rfl rfl (by decide +kernel) ⟨Nat.le_of_ble_eq_true rfl, Nat.le_of_ble_eq_true rfl⟩) ⟨fun a U g mk q => q, fun U hU hW => ⟨rfl, trivial⟩⟩ rfl rfl hl.1 rfl (lv_room (Nat.le_of_ble_eq_true rfl)) dX9_block_16 ⟨Nat.le_of_ble_eq_true rfl, Nat.le_of_ble_eq_true rfl⟩)) (fun r_90 er_90 => ?_)
      obtain ⟨k_91, k_92, k_93, k_94, k_95⟩ := er_90
      rcases iv_01 (a := r_90) (by omega) (by omega) with b_96 | b_96
      · skip
        have ib_96 := iv_eq b_96
        rw [b_96]
        refine lv_if_ne (tgt := 26) hx hb dX9_block_19 (by decide) (fun c_97 => ?_) (fun c_97 => ?_)
        · skip
          have ic_97 := iv_ne c_97
          exfalso
          omega
        · skip
          have ic_97 := iv_eq c_97
          refine lv_iconst (v := 2) hx hb dX9_block_22 (by decide) ?_
          refine lv_goto (tgt := 27) hx hb dX9_block_23 (by decide) ?_
          exact join1 (2 : Int32) _ _ _ (by omega) (by omega) (by omega) hP hS (lv_sub hl [0, 1, 2] rfl)
      · skip
        have ib_96 := iv_eq b_96
        rw [b_96]
        refine lv_if_ne (tgt := 26) hx hb dX9_block_19 (by decide) (fun c_98 => ?_) (fun c_98 => ?_)
        · skip
          have ic_98 := iv_ne c_98
          refine lv_iconst (v := 0) hx hb dX9_block_26 (by decide) ?_
          exact join1 (0 : Int32) _ _ _ (by omega) (by omega) (by omega) hP hS (lv_sub hl [0, 1, 2] rfl)
        · skip
          have ic_98 := iv_eq c_98
          exfalso
          omega
    · skip
      have ic_89 := iv_eq c_89
      refine lv_iconst (v := 1) hx hb dX9_block_8 (by decide) ?_
      refine lv_goto (tgt := 27) hx hb dX9_block_9 (by decide) ?_
      exact join1 (1 : Int32) _ _ _ (by omega) (by omega) (by omega) hP hS (lv_sub hl [0, 1, 2] rfl)
  exact main s.heap [] hP hS

set_option maxHeartbeats 4000000 in
set_option maxRecDepth 100000 in
theorem v_X9_digest (l : Launch) (dC : Nat → ClassId) (dI : Nat → Nat → Nat) (o : Nat) (c : Nat → Nat) (kc : Nat → ClassId) (st : Nat → Int32) (lg : Nat → Int64) (ai : Nat → Nat → Int32) (al : Nat → Nat → Int64) (p0 : Int32) (sz : Nat) (hf3a : 0 ≤ (st 3).toInt) (hf3b : (st 3).toInt ≤ 1) (hf7a : 0 ≤ (st 7).toInt) (hf7b : (st 7).toInt ≤ 1) (hf15a : 0 ≤ (st 15).toInt) (hf15b : (st 15).toInt ≤ 128) (hf16a : 0 ≤ (st 16).toInt) (hf16b : (st 16).toInt ≤ 128) (hf17a : 0 ≤ (st 17).toInt) (hf17b : (st 17).toInt ≤ 1) (hf21a : -1 ≤ (st 21).toInt) (hf21b : (st 21).toInt ≤ 127) (hf22a : 0 ≤ (st 22).toInt) (hf22b : (st 22).toInt ≤ 1000000) (hf24a : 0 ≤ (st 24).toInt) (hf24b : (st 24).toInt ≤ 1) (hf26a : 0 ≤ (st 26).toInt) (hf26b : (st 26).toInt ≤ 2000000) (hR25 : aR (ai 25) 130 (0) 127) : Met l yX9_digest wsX9_digest ({ frames := 7, cells := 0, slots := 0, locals := 159 }) (va_Pc [.ref o, .int p0] (fun U => U.heap.size = sz ∧ va_P (dC, dI) vwCl (rw_W o c kc st lg ai al) U.heap ∧ va_K (dC, dI) vwCl (rw_T kc) U ∧ va_D (fun _ => True) (rw_W o c kc st lg ai al))) (va_Ql (fun r (u : Int64) => r = u) (fun _ t => ∃ (x13 : Int32) (x16 : Int32) (x17 : Int32) (x21 : Int32) (x22 : Int32) (x24 : Int32) (x26 : Int32) (y23 : Int64) (y27 : Int64) (f19 : Nat → Int32) (f20 : Nat → Int32) (f25 : Nat → Int32) (g18 : Nat → Int64), (0 ≤ x16.toInt) ∧ (x16.toInt ≤ 128) ∧ (0 ≤ x17.toInt) ∧ (x17.toInt ≤ 1) ∧ (-1 ≤ x21.toInt) ∧ (x21.toInt ≤ 127) ∧ (0 ≤ x22.toInt) ∧ (x22.toInt ≤ 1000000) ∧ (0 ≤ x24.toInt) ∧ (x24.toInt ≤ 1) ∧ (0 ≤ x26.toInt) ∧ (x26.toInt ≤ 2000000) ∧ (aR f25 130 (0) 127) ∧ va_P (dC, dI) vwCl (rw_W o c kc (rU (rU (rU (rU (rU (rU (rU st 13 x13) 16 x16) 17 x17) 21 x21) 22 x22) 24 x24) 26 x26) (rU (rU lg 23 y23) 27 y27) (rU (rU (rU ai 19 f19) 20 f20) 25 f25) (rU al 18 g18)) t.heap) (va_A (rw_W o c kc st lg ai al) sz)) 0 0 (va_A (rw_W o c kc st lg ai al) sz) := by
  refine Met.ofW (cc := cX9_digest) (maxL := 2) (ret := (some .long)) (by decide) rfl ?_
  intro p e s m args below meth cM s₁ B hml hv
  obtain ⟨rfl, hsz, hP, hK, hD0⟩ := hv
  have hx := B.exec
  have hb := B.bytes
  have hr := B.returns
  have hts := atoms_spec (ws := wsX9_digest) B.pre
  have hown : s.vm.findClass RX9 = some m.cls := findClass_of_methodNamed B.named
  subst hsz
  have hD := hD0.self (sz := s.heap.size)
  generalize hAe : va_A (rw_W o c kc st lg ai al) s.heap.size = A at hD ⊢
  have hA : ∀ q : Nat, s.heap.size ≤ q → A q := fun q h => by rw [← hAe]; exact Or.inr h
  have hS : va_S A s.heap s.heap [] := va_S.rf
  clear hAe hD0
  have hl := lv_entry ([.ref o, .int p0]) (n := 2) (Nat.le_of_ble_eq_true rfl)
  rw [lg_entry_eq]
  generalize (lg_sl ([.ref o, .int p0]) ++ List.replicate (2 - (lg_sl ([.ref o, .int p0])).length) Slot.unset).toArray = ls at hl ⊢
  have hl : lv_has ls 2 [(0, .ref o), (1, .int p0)] := hl
  have z_0 : (0 : Int32).toInt = 0 := by decide
  have z_1 : (1 : Int32).toInt = 1 := by decide
  have z_2 : (2 : Int32).toInt = 2 := by decide
  have hin9 : ∀ w ∈ u_ws RX9 TX9 38, w ∈ wsX9_digest := by decide +kernel
  have main : ∀ (H : Heap) (locs : List Loc), va_P (dC, dI) vwCl (rw_W o c kc st lg ai al) H → va_S A s.heap H locs → W p l e (headSpec wsX9_digest ({ frames := 7, cells := 0, slots := 0, locals := 159 })).room s m ([.ref o, .int p0] : List Value).toArray below meth cM H locs 0 0 (MQ below (va_Ql (fun r (u : Int64) => r = u) (fun _ t => ∃ (x13 : Int32) (x16 : Int32) (x17 : Int32) (x21 : Int32) (x22 : Int32) (x24 : Int32) (x26 : Int32) (y23 : Int64) (y27 : Int64) (f19 : Nat → Int32) (f20 : Nat → Int32) (f25 : Nat → Int32) (g18 : Nat → Int64), (0 ≤ x16.toInt) ∧ (x16.toInt ≤ 128) ∧ (0 ≤ x17.toInt) ∧ (x17.toInt ≤ 1) ∧ (-1 ≤ x21.toInt) ∧ (x21.toInt ≤ 127) ∧ (0 ≤ x22.toInt) ∧ (x22.toInt ≤ 1000000) ∧ (0 ≤ x24.toInt) ∧ (x24.toInt ≤ 1) ∧ (0 ≤ x26.toInt) ∧ (x26.toInt ≤ 2000000) ∧ (aR f25 130 (0) 127) ∧ va_P (dC, dI) vwCl (rw_W o c kc (rU (rU (rU (rU (rU (rU (rU st 13 x13) 16 x16) 17 x17) 21 x21) 22 x22) 24 x24) 26 x26) (rU (rU lg 23 y23) 27 y27) (rU (rU (rU ai 19 f19) 20 f20) 25 f25) (rU al 18 g18)) t.heap) A) ([.ref o, .int p0] : List Value).toArray s 0 0 A) (F0 m 0 ls []) := by
    intro H locs hP hS
    refine lv_aload_n hx hb dX9_digest_0 rfl (lv_at hl 0 rfl) ?_
    refine lv_aload_n hx hb dX9_digest_1 rfl (lv_at hl 0 rfl) ?_
    refine lv_iload_n hx hb dX9_digest_2 rfl (lv_at hl 1 rfl) ?_
    refine vp_callSi (va_Run.run (va_runV (As := [.int p0]) (rest := [.ref o]) ⟨hx, hb, hml, hown, hts⟩ (v_X9_isRow l dC dI o c kc st lg ai al p0 (show 0 ≤ (st 3).toInt by omega) (show (st 3).toInt ≤ 1 by omega) (show 0 ≤ (st 15).toInt by omega) (show (st 15).toInt ≤ 128 by omega)) (cwV 1 hts gX9_digest_X9_isRow rfl rfl rfl (by decide +kernel) ⟨Nat.le_of_ble_eq_true rfl, Nat.le_of_ble_eq_true rfl⟩) ⟨fun a U g mk q => by obtain ⟨q0, qP, qK⟩ := q; exact ⟨q0, qP, va_K.moved (u := U) (U := U.calling g mk a) (Vm.Alike.refl U.vm) qK⟩, va_recv hK hP (ci := 11) (q := (RX9, TX9, 38)) rfl (q0 := 0) rfl, fun U hU hW => ⟨rfl, by rw [hU]; exact hP, va_K.moved hW.alike hK⟩⟩ rfl rfl hl.1 rfl (lv_room (Nat.le_of_ble_eq_true rfl)) dX9_digest_3 ⟨Nat.le_of_ble_eq_true rfl, Nat.le_of_ble_eq_true rfl⟩)) (fun r_1 er_1 => ?_)
    obtain ⟨k_2, k_3, k_4, k_5⟩ := er_1
    rcases iv_01 (a := r_1) (by omega) (by omega) with b_6 | b_6
    · skip
      have ib_6 := iv_eq b_6
      rw [b_6]
      refine lv_if_ne (tgt := 13) hx hb dX9_digest_6 (by decide) (fun c_7 => ?_) (fun c_7 => ?_)
      · skip
        have ic_7 := iv_ne c_7
        exfalso
        omega
      · skip
        have ic_7 := iv_eq c_7
        refine lv_iconst (v := 1) hx hb dX9_digest_9 (by decide) ?_
        refine lv_goto (tgt := 25) hx hb dX9_digest_10 (by decide) ?_
        refine va_put (D := (dC, dI)) (ci := 11) (v := .int (1 : Int32)) (ty := .int) (C := RX9) (T := TX9) (N := 38) hx hb hts hin9 tyX9 tyX9_ok nmX9 hown hK hP (rw_D hD) hS 0 rfl rfl 13 (by decide) (hts (.fieldLink RX9 91 "BlockLogModel" "thrown" "I") (by decide +kernel)) (fun _ h9 => h9) rfl (by decide +kernel) rfl rfl (Nat.le_of_ble_eq_true rfl) dX9_digest_25 (fun H locs hP _ hS => ?_)
        have hP : va_P (dC, dI) vwCl (rw_W o c kc (rU st 13 (1 : Int32)) lg ai al) H := hP
        refine lv_aload_n hx hb dX9_digest_28 rfl (lv_at hl 0 rfl) ?_
        refine va_get (D := (dC, dI)) (ci := 11) (v := .int (1 : Int32)) (C := RX9) (T := TX9) (N := 38) hx hb hts hin9 hown hK hP 0 rfl rfl 13 (by decide) (hts (.fieldLink RX9 91 "BlockLogModel" "thrown" "I") (by decide +kernel)) (fun _ h9 => h9) rfl dX9_digest_29 ?_
        refine lv_if_le (tgt := 37) hx hb dX9_digest_32 (by decide) (fun c_8 => ?_) (fun c_8 => ?_)
        · skip
          have ic_8 := iv_le c_8
          exfalso
          omega
        · skip
          have ic_8 := iv_nle c_8
          refine lv_lconst (v := 0) hx hb dX9_digest_35 (by decide) ?_
          exact W.lret hx hb hr (fun t ht hW => ⟨⟨_, _, rfl, rfl, (1 : Int32), st 16, st 17, st 21, st 22, st 24, st 26, lg 23, lg 27, ai 19, ai 20, ai 25, al 18, (by omega), (by omega), (by omega), (by omega), (by omega), (by omega), (by omega), (by omega), (by omega), (by omega), (by omega), (by omega), hR25, by rw [ht]; exact hP⟩, hS.F ht⟩) hS.2.2 dX9_digest_36
    · skip
      have ib_6 := iv_eq b_6
      rw [b_6]
      refine lv_if_ne (tgt := 13) hx hb dX9_digest_6 (by decide) (fun c_9 => ?_) (fun c_9 => ?_)
      · skip
        have ic_9 := iv_ne c_9
        refine lv_aload_n hx hb dX9_digest_13 rfl (lv_at hl 0 rfl) ?_
        refine va_get (D := (dC, dI)) (ci := 11) (v := .int (st 3)) (C := RX9) (T := TX9) (N := 38) hx hb hts hin9 hown hK hP 0 rfl rfl 3 (by decide) (hts (.fieldLink RX9 72 "BlockLogModel" "on" "Z") (by decide +kernel)) (fun _ h9 => h9) rfl dX9_digest_14 ?_
        refine lv_if_ne (tgt := 24) hx hb dX9_digest_17 (by decide) (fun c_10 => ?_) (fun c_10 => ?_)
        · skip
          have ic_10 := iv_ne c_10
          refine lv_iconst (v := 0) hx hb dX9_digest_24 (by decide) ?_
          refine va_put (D := (dC, dI)) (ci := 11) (v := .int (0 : Int32)) (ty := .int) (C := RX9) (T := TX9) (N := 38) hx hb hts hin9 tyX9 tyX9_ok nmX9 hown hK hP (rw_D hD) hS 0 rfl rfl 13 (by decide) (hts (.fieldLink RX9 91 "BlockLogModel" "thrown" "I") (by decide +kernel)) (fun _ h9 => h9) rfl (by decide +kernel) rfl rfl (Nat.le_of_ble_eq_true rfl) dX9_digest_25 (fun H locs hP _ hS => ?_)
          have hP : va_P (dC, dI) vwCl (rw_W o c kc (rU st 13 (0 : Int32)) lg ai al) H := hP
          refine lv_aload_n hx hb dX9_digest_28 rfl (lv_at hl 0 rfl) ?_
          refine va_get (D := (dC, dI)) (ci := 11) (v := .int (0 : Int32)) (C := RX9) (T := TX9) (N := 38) hx hb hts hin9 hown hK hP 0 rfl rfl 13 (by decide) (hts (.fieldLink RX9 91 "BlockLogModel" "thrown" "I") (by decide +kernel)) (fun _ h9 => h9) rfl dX9_digest_29 ?_
          refine lv_if_le (tgt := 37) hx hb dX9_digest_32 (by decide) (fun c_11 => ?_) (fun c_11 => ?_)
          · skip
            have ic_11 := iv_le c_11
            refine lv_aload_n hx hb dX9_digest_37 rfl (lv_at hl 0 rfl) ?_
            have hFc := vfree (rw_D hD : va_D A (rw_W o c kc (rU st 13 (0 : Int32)) lg ai al)) hS hA
            refine va_callv (va_runV (As := []) (rest := []) ⟨hx, hb, hml, hown, hts⟩ (v_X9_read l dC dI o c kc (rU st 13 (0 : Int32)) lg ai al  _ (show 0 ≤ (st 7).toInt by omega) (show (st 7).toInt ≤ 1 by omega) (show 0 ≤ (st 15).toInt by omega) (show (st 15).toInt ≤ 128 by omega) (show 0 ≤ (st 16).toInt by omega) (show (st 16).toInt ≤ 128 by omega) (show 0 ≤ (st 17).toInt by omega) (show (st 17).toInt ≤ 1 by omega) (show -1 ≤ (st 21).toInt by omega) (show (st 21).toInt ≤ 127 by omega) (show 0 ≤ (st 22).toInt by omega) (show (st 22).toInt ≤ 1000000 by omega) (show 0 ≤ (st 24).toInt by omega) (show (st 24).toInt ≤ 1 by omega) (show 0 ≤ (st 26).toInt by omega) (show (st 26).toInt ≤ 2000000 by omega) (show aR (ai 25) 130 (0) 127 from hR25)) (cwV 0 hts gX9_digest_X9_read rfl rfl rfl (by decide +kernel) ⟨Nat.le_of_ble_eq_true rfl, Nat.le_of_ble_eq_true rfl⟩) ⟨fun a U g mk q => by obtain ⟨q0, q1, qP, qK, qD⟩ := q; exact ⟨q0, q1, qP, va_K.moved (u := U) (U := U.calling g mk a) (Vm.Alike.refl U.vm) qK, qD⟩, va_recv hK hP (ci := 11) (q := (RX9, TX9, 38)) rfl (q0 := 0) rfl, fun U hU hW => ⟨rfl, by rw [hU], by rw [hU]; exact hP, va_K.moved hW.alike hK, rw_D (hD.weaken (fun _ _ _ _ => trivial))⟩⟩ rfl rfl hl.1 rfl (lv_room (Nat.le_of_ble_eq_true rfl)) dX9_digest_38 ⟨Nat.le_of_ble_eq_true rfl, Nat.le_of_ble_eq_true rfl⟩) hS (fun q _ h => hFc q h) hFc (fun ur_12 t H1 locs ht hvm er_12 hB hz1 hk1 hS => ?_)
            obtain ⟨x16_12, x17_12, x21_12, x22_12, x24_12, x26_12, y23_12, y27_12, f19_12, f20_12, f25_12, g18_12, k_13, k_14, k_15, k_16, k_17, k_18, k_19, k_20, k_21, k_22, k_23, k_24, k_25, k_26, k_27, k_28, k_29, hR25, hG, hC, hV, hBs, hP1⟩ := hB
            rw [ht] at hP1
            clear hFc hz1 hk1 hvm hP
            subst ht
            have hP := hP1
            clear hP1
            generalize t.heap = H at hP hS ⊢
            have hP : va_P (dC, dI) vwCl (rw_W o c kc (rU (rU (rU (rU (rU (rU (rU st 13 (0 : Int32)) 16 x16_12) 17 x17_12) 21 x21_12) 22 x22_12) 24 x24_12) 26 x26_12) (rU (rU lg 23 y23_12) 27 y27_12) (rU (rU (rU ai 19 f19_12) 20 f20_12) 25 f25_12) (rU al 18 g18_12)) H := hP
            have k_13 : x16_12.toInt = (st 15).toInt := k_13
            have k_14 : 0 ≤ x26_12.toInt - x22_12.toInt := k_14
            have k_15 : x26_12.toInt - x22_12.toInt ≤ 128 := k_15
            have k_16 : (x21_12.toInt = -1 ∨ (rK (ai 0) (st 7) x21_12).toInt = 1) := k_16
            have k_17 : x21_12.toInt < x16_12.toInt := k_17
            have k_18 : 0 ≤ x16_12.toInt := k_18
            have k_19 : x16_12.toInt ≤ 128 := k_19
            have k_20 : 0 ≤ x17_12.toInt := k_20
            have k_21 : x17_12.toInt ≤ 1 := k_21
            have k_22 : -1 ≤ x21_12.toInt := k_22
            have k_23 : x21_12.toInt ≤ 127 := k_23
            have k_24 : 0 ≤ x22_12.toInt := k_24
            have k_25 : x22_12.toInt ≤ 1000000 := k_25
            have k_26 : 0 ≤ x24_12.toInt := k_26
            have k_27 : x24_12.toInt ≤ 1 := k_27
            have k_28 : 0 ≤ x26_12.toInt := k_28
            have k_29 : x26_12.toInt ≤ 2000000 := k_29
            have hR25 : aR f25_12 130 (0) 127 := hR25
            have hG : gOK (ai 0) (st 7) x16_12 f19_12 := hG
            have hC : cOK (ai 0) (st 7) x16_12 f20_12 := hC
            have hV : vOK (ai 0) (st 7) x16_12 f25_12 (x26_12.toInt - x22_12.toInt) := hV
            have hBs : bOK (ai 0) (st 7) x16_12 x24_12 := hBs
            refine lv_aload_n hx hb dX9_digest_41 rfl (lv_at hl 0 rfl) ?_
            refine va_get (D := (dC, dI)) (ci := 11) (v := .int x17_12) (C := RX9) (T := TX9) (N := 38) hx hb hts hin9 hown hK hP 0 rfl rfl 17 (by decide) (hts (.fieldLink RX9 176 "BlockLogModel" "needs" "Z") (by decide +kernel)) (fun _ h9 => h9) rfl dX9_digest_42 ?_
            refine lv_if_ne (tgt := 57) hx hb dX9_digest_45 (by decide) (fun c_30 => ?_) (fun c_30 => ?_)
            · skip
              have ic_30 := iv_ne c_30
              refine lv_lconst (v := 0) hx hb dX9_digest_57 (by decide) ?_
              refine lv_goto (tgt := 67) hx hb dX9_digest_58 (by decide) ?_
              exact W.lret hx hb hr (fun t ht hW => ⟨⟨_, _, rfl, rfl, (0 : Int32), x16_12, x17_12, x21_12, x22_12, x24_12, x26_12, y23_12, y27_12, f19_12, f20_12, f25_12, g18_12, (by omega), (by omega), (by omega), (by omega), (by omega), (by omega), (by omega), (by omega), (by omega), (by omega), (by omega), (by omega), hR25, by rw [ht]; exact hP⟩, hS.F ht⟩) hS.2.2 dX9_digest_67
            · skip
              have ic_30 := iv_eq c_30
              refine lv_aload_n hx hb dX9_digest_48 rfl (lv_at hl 0 rfl) ?_
              refine va_get (D := (dC, dI)) (ci := 11) (v := .ref (c 19)) (C := RX9) (T := TX9) (N := 38) hx hb hts hin9 hown hK hP 0 rfl rfl 19 (by decide) (hts (.fieldLink RX9 30 "BlockLogModel" "isGroup" "[Z") (by decide +kernel)) (fun _ h9 => h9) rfl dX9_digest_49 ?_
              refine lv_iload_n hx hb dX9_digest_52 rfl (lv_at hl 1 rfl) ?_
              refine va_zald (f := f19_12) hx hb hK hP 7 6 rfl rfl (iv_in (i := p0) (by omega) (by omega)) dX9_digest_53 ?_
              refine lv_topi (fun v_31 ev_31 => ?_)
              have hX_isGroup := ev_31
              clear ev_31
              refine lv_if_ne (tgt := 61) hx hb dX9_digest_54 (by decide) (fun c_32 => ?_) (fun c_32 => ?_)
              · skip
                have ic_32 := iv_ne c_32
                refine lv_aload_n hx hb dX9_digest_61 rfl (lv_at hl 0 rfl) ?_
                refine va_get (D := (dC, dI)) (ci := 11) (v := .ref (c 18)) (C := RX9) (T := TX9) (N := 38) hx hb hts hin9 hown hK hP 0 rfl rfl 18 (by decide) (hts (.fieldLink RX9 27 "BlockLogModel" "digestAt" "[J") (by decide +kernel)) (fun _ h9 => h9) rfl dX9_digest_62 ?_
                refine lv_iload_n hx hb dX9_digest_65 rfl (lv_at hl 1 rfl) ?_
                refine va_lald (f := g18_12) hx hb hK hP 6 5 rfl rfl (iv_in (i := p0) (by omega) (by omega)) dX9_digest_66 ?_
                refine lv_topl (fun w_33 ew_33 => ?_)
                clear ew_33
                exact W.lret hx hb hr (fun t ht hW => ⟨⟨_, _, rfl, rfl, (0 : Int32), x16_12, x17_12, x21_12, x22_12, x24_12, x26_12, y23_12, y27_12, f19_12, f20_12, f25_12, g18_12, (by omega), (by omega), (by omega), (by omega), (by omega), (by omega), (by omega), (by omega), (by omega), (by omega), (by omega), (by omega), hR25, by rw [ht]; exact hP⟩, hS.F ht⟩) hS.2.2 dX9_digest_67
              · skip
                have ic_32 := iv_eq c_32
                refine lv_lconst (v := 0) hx hb dX9_digest_57 (by decide) ?_
                refine lv_goto (tgt := 67) hx hb dX9_digest_58 (by decide) ?_
                exact W.lret hx hb hr (fun t ht hW => ⟨⟨_, _, rfl, rfl, (0 : Int32), x16_12, x17_12, x21_12, x22_12, x24_12, x26_12, y23_12, y27_12, f19_12, f20_12, f25_12, g18_12, (by omega), (by omega), (by omega), (by omega), (by omega), (by omega), (by omega), (by omega), (by omega), (by omega), (by omega), (by omega), hR25, by rw [ht]; exact hP⟩, hS.F ht⟩) hS.2.2 dX9_digest_67
          · skip
            have ic_11 := iv_nle c_11
            exfalso
            omega
        · skip
          have ic_10 := iv_eq c_10
          refine lv_iconst (v := 2) hx hb dX9_digest_20 (by decide) ?_
          refine lv_goto (tgt := 25) hx hb dX9_digest_21 (by decide) ?_
          refine va_put (D := (dC, dI)) (ci := 11) (v := .int (2 : Int32)) (ty := .int) (C := RX9) (T := TX9) (N := 38) hx hb hts hin9 tyX9 tyX9_ok nmX9 hown hK hP (rw_D hD) hS 0 rfl rfl 13 (by decide) (hts (.fieldLink RX9 91 "BlockLogModel" "thrown" "I") (by decide +kernel)) (fun _ h9 => h9) rfl (by decide +kernel) rfl rfl (Nat.le_of_ble_eq_true rfl) dX9_digest_25 (fun H locs hP _ hS => ?_)
          have hP : va_P (dC, dI) vwCl (rw_W o c kc (rU st 13 (2 : Int32)) lg ai al) H := hP
          refine lv_aload_n hx hb dX9_digest_28 rfl (lv_at hl 0 rfl) ?_
          refine va_get (D := (dC, dI)) (ci := 11) (v := .int (2 : Int32)) (C := RX9) (T := TX9) (N := 38) hx hb hts hin9 hown hK hP 0 rfl rfl 13 (by decide) (hts (.fieldLink RX9 91 "BlockLogModel" "thrown" "I") (by decide +kernel)) (fun _ h9 => h9) rfl dX9_digest_29 ?_
          refine lv_if_le (tgt := 37) hx hb dX9_digest_32 (by decide) (fun c_34 => ?_) (fun c_34 => ?_)
          · skip
            have ic_34 := iv_le c_34
            exfalso
            omega
          · skip
            have ic_34 := iv_nle c_34
            refine lv_lconst (v := 0) hx hb dX9_digest_35 (by decide) ?_
            exact W.lret hx hb hr (fun t ht hW => ⟨⟨_, _, rfl, rfl, (2 : Int32), st 16, st 17, st 21, st 22, st 24, st 26, lg 23, lg 27, ai 19, ai 20, ai 25, al 18, (by omega), (by omega), (by omega), (by omega), (by omega), (by omega), (by omega), (by omega), (by omega), (by omega), (by omega), (by omega), hR25, by rw [ht]; exact hP⟩, hS.F ht⟩) hS.2.2 dX9_digest_36
      · skip
        have ic_9 := iv_eq c_9
        exfalso
        omega
  exact main s.heap [] hP hS
