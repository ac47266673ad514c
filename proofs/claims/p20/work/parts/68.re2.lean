set_option maxHeartbeats 4000000 in
set_option maxRecDepth 100000 in
theorem v_X9_named (l : Launch) (dC : Nat → ClassId) (dI : Nat → Nat → Nat) (o : Nat) (c : Nat → Nat) (kc : Nat → ClassId) (st : Nat → Int32) (lg : Nat → Int64) (ai : Nat → Nat → Int32) (al : Nat → Nat → Int64) (p0 : Int32) (sz : Nat) (hf1a : 1 ≤ (st 1).toInt) (hf1b : (st 1).toInt ≤ 65536) (hf3a : 0 ≤ (st 3).toInt) (hf3b : (st 3).toInt ≤ 1) (hf7a : 0 ≤ (st 7).toInt) (hf7b : (st 7).toInt ≤ 1) (hf15a : 0 ≤ (st 15).toInt) (hf15b : (st 15).toInt ≤ 128) (hf16a : 0 ≤ (st 16).toInt) (hf16b : (st 16).toInt ≤ 128) (hf17a : 0 ≤ (st 17).toInt) (hf17b : (st 17).toInt ≤ 1) (hf21a : -1 ≤ (st 21).toInt) (hf21b : (st 21).toInt ≤ 127) (hf22a : 0 ≤ (st 22).toInt) (hf22b : (st 22).toInt ≤ 1000000) (hf24a : 0 ≤ (st 24).toInt) (hf24b : (st 24).toInt ≤ 1) (hf26a : 0 ≤ (st 26).toInt) (hf26b : (st 26).toInt ≤ 2000000) (hf30a : 0 ≤ (st 30).toInt) (hf30b : (st 30).toInt ≤ 128) (hR25 : aR (ai 25) 130 (0) 127) : Met l yX9_named wsX9_named ({ frames := 7, cells := 0, slots := 0, locals := 159 }) (va_Pc [.ref o, .int p0] (fun U => U.heap.size = sz ∧ va_P (dC, dI) vwCl (rw_W o c kc st lg ai al) U.heap ∧ va_K (dC, dI) vwCl (rw_T kc) U ∧ va_D (fun _ => True) (rw_W o c kc st lg ai al))) (va_Qi (fun r (u : Int32) => r = u) (fun u t => ∃ (x13 : Int32) (x16 : Int32) (x17 : Int32) (x21 : Int32) (x22 : Int32) (x24 : Int32) (x26 : Int32) (x30 : Int32) (y23 : Int64) (y27 : Int64) (f19 : Nat → Int32) (f20 : Nat → Int32) (f25 : Nat → Int32) (g18 : Nat → Int64) (g28 : Nat → Int64) (g29 : Nat → Int64), (0 ≤ u.toInt) ∧ (u.toInt ≤ 1) ∧ (0 ≤ x16.toInt) ∧ (x16.toInt ≤ 128) ∧ (0 ≤ x17.toInt) ∧ (x17.toInt ≤ 1) ∧ (-1 ≤ x21.toInt) ∧ (x21.toInt ≤ 127) ∧ (0 ≤ x22.toInt) ∧ (x22.toInt ≤ 1000000) ∧ (0 ≤ x24.toInt) ∧ (x24.toInt ≤ 1) ∧ (0 ≤ x26.toInt) ∧ (x26.toInt ≤ 2000000) ∧ (0 ≤ x30.toInt) ∧ (x30.toInt ≤ 128) ∧ (aR f25 130 (0) 127) ∧ va_P (dC, dI) vwCl (rw_W o c kc (rU (rU (rU (rU (rU (rU (rU (rU st 13 x13) 16 x16) 17 x17) 21 x21) 22 x22) 24 x24) 26 x26) 30 x30) (rU (rU lg 23 y23) 27 y27) (rU (rU (rU ai 19 f19) 20 f20) 25 f25) (rU (rU (rU al 18 g18) 28 g28) 29 g29)) t.heap) (va_A (rw_W o c kc st lg ai al) sz)) 0 0 (va_A (rw_W o c kc st lg ai al) sz) := by
  refine Met.ofW (cc := cX9_named) (maxL := 2) (ret := (some .boolean)) (by decide) rfl ?_
  intro p e s m args below meth cM s₁ B hml hv
  obtain ⟨rfl, hsz, hP, hK, hD0⟩ := hv
  have hx := B.exec
  have hb := B.bytes
  have hr := B.returns
  have hts := atoms_spec (ws := wsX9_named) B.pre
  have hown : s.vm.findClass RX9 = some m.cls := findClass_of_methodNamed B.named
  subst hsz
  have hD := hD0.self (sz := s.heap.size)
  generalize hAe : va_A (rw_W o c kc st lg ai al) s.heap.size = A at hD ⊢
  have hA : ∀ q : Nat, s.heap.size ≤ q → A q := fun q h => by rw [← hAe]; exact Or.inr h
  have hS : va_S A s.heap s.heap [] := va_S.rf
  clear hAe hD0
  have hl := lv_entry ([.ref o, .int p0]) (n := 2) (Nat.le_of_ble_eq_true rfl)
  rw [lg_entry_eq]
  generalize (lg_sl ([.ref o, .int p0]) ++ List.replicate (2 - (lg_sl ([.ref o, .int p0])).length) Slot.unset).toArray = ls at hl ⊢
  have hl : lv_has ls 2 [(0, .ref o), (1, .int p0)] := hl
  have z_0 : (0 : Int32).toInt = 0 := by decide
  have z_1 : (1 : Int32).toInt = 1 := by decide
  have z_2 : (2 : Int32).toInt = 2 := by decide
  have hin9 : ∀ w ∈ u_ws RX9 TX9 38, w ∈ wsX9_named := by decide +kernel
  have main : ∀ (H : Heap) (locs : List Loc), va_P (dC, dI) vwCl (rw_W o c kc st lg ai al) H → va_S A s.heap H locs → W p l e (headSpec wsX9_named ({ frames := 7, cells := 0, slots := 0, locals := 159 })).room s m ([.ref o, .int p0] : List Value).toArray below meth cM H locs 0 0 (MQ below (va_Qi (fun r (u : Int32) => r = u) (fun u t => ∃ (x13 : Int32) (x16 : Int32) (x17 : Int32) (x21 : Int32) (x22 : Int32) (x24 : Int32) (x26 : Int32) (x30 : Int32) (y23 : Int64) (y27 : Int64) (f19 : Nat → Int32) (f20 : Nat → Int32) (f25 : Nat → Int32) (g18 : Nat → Int64) (g28 : Nat → Int64) (g29 : Nat → Int64), (0 ≤ u.toInt) ∧ (u.toInt ≤ 1) ∧ (0 ≤ x16.toInt) ∧ (x16.toInt ≤ 128) ∧ (0 ≤ x17.toInt) ∧ (x17.toInt ≤ 1) ∧ (-1 ≤ x21.toInt) ∧ (x21.toInt ≤ 127) ∧ (0 ≤ x22.toInt) ∧ (x22.toInt ≤ 1000000) ∧ (0 ≤ x24.toInt) ∧ (x24.toInt ≤ 1) ∧ (0 ≤ x26.toInt) ∧ (x26.toInt ≤ 2000000) ∧ (0 ≤ x30.toInt) ∧ (x30.toInt ≤ 128) ∧ (aR f25 130 (0) 127) ∧ va_P (dC, dI) vwCl (rw_W o c kc (rU (rU (rU (rU (rU (rU (rU (rU st 13 x13) 16 x16) 17 x17) 21 x21) 22 x22) 24 x24) 26 x26) 30 x30) (rU (rU lg 23 y23) 27 y27) (rU (rU (rU ai 19 f19) 20 f20) 25 f25) (rU (rU (rU al 18 g18) 28 g28) 29 g29)) t.heap) A) ([.ref o, .int p0] : List Value).toArray s 0 0 A) (F0 m 0 ls []) := by
    intro H locs hP hS
    refine lv_aload_n hx hb dX9_named_0 rfl (lv_at hl 0 rfl) ?_
    have join1 : ∀ (jt_1 : Int32) (H : Heap) (locs : List Loc) (ls : Array Slot), (0 ≤ jt_1.toInt) → (jt_1.toInt ≤ 2) → (jt_1.toInt = 0 → (0 ≤ p0.toInt ∧ p0.toInt < (st 1).toInt)) → va_P (dC, dI) vwCl (rw_W o c kc st lg ai al) H → va_S A s.heap H locs → lv_has ls 2 [(0, .ref o), (1, .int p0)] → W p l e (headSpec wsX9_named ({ frames := 7, cells := 0, slots := 0, locals := 159 })).room s m ([.ref o, .int p0] : List Value).toArray below meth cM H locs 0 0 (MQ below (va_Qi (fun r (u : Int32) => r = u) (fun u t => ∃ (x13 : Int32) (x16 : Int32) (x17 : Int32) (x21 : Int32) (x22 : Int32) (x24 : Int32) (x26 : Int32) (x30 : Int32) (y23 : Int64) (y27 : Int64) (f19 : Nat → Int32) (f20 : Nat → Int32) (f25 : Nat → Int32) (g18 : Nat → Int64) (g28 : Nat → Int64) (g29 : Nat → Int64), (0 ≤ u.toInt) ∧ (u.toInt ≤ 1) ∧ (0 ≤ x16.toInt) ∧ (x16.toInt ≤ 128) ∧ (0 ≤ x17.toInt) ∧ (x17.toInt ≤ 1) ∧ (-1 ≤ x21.toInt) ∧ (x21.toInt ≤ 127) ∧ (0 ≤ x22.toInt) ∧ (x22.toInt ≤ 1000000) ∧ (0 ≤ x24.toInt) ∧ (x24.toInt ≤ 1) ∧ (0 ≤ x26.toInt) ∧ (x26.toInt ≤ 2000000) ∧ (0 ≤ x30.toInt) ∧ (x30.toInt ≤ 128) ∧ (aR f25 130 (0) 127) ∧ va_P (dC, dI) vwCl (rw_W o c kc (rU (rU (rU (rU (rU (rU (rU (rU st 13 x13) 16 x16) 17 x17) 21 x21) 22 x22) 24 x24) 26 x26) 30 x30) (rU (rU lg 23 y23) 27 y27) (rU (rU (rU ai 19 f19) 20 f20) 25 f25) (rU (rU (rU al 18 g18) 28 g28) 29 g29)) t.heap) A) ([.ref o, .int p0] : List Value).toArray s 0 0 A) (F0 m 31 ls [.int jt_1, .ref o]) := by
      intro jt_1 H locs ls ij0_1 ij1_1 ij2_1 hP hS hl
      refine va_put (D := (dC, dI)) (ci := 11) (v := .int jt_1) (ty := .int) (C := RX9) (T := TX9) (N := 38) hx hb hts hin9 tyX9 tyX9_ok nmX9 hown hK hP (rw_D hD) hS 0 rfl rfl 13 (by decide) (hts (.fieldLink RX9 91 "BlockLogModel" "thrown" "I") (by decide +kernel)) (fun _ h9 => h9) rfl (by decide +kernel) rfl rfl (Nat.le_of_ble_eq_true rfl) dX9_named_31 (fun H locs hP _ hS => ?_)
      have hP : va_P (dC, dI) vwCl (rw_W o c kc (rU st 13 jt_1) lg ai al) H := hP
      refine lv_aload_n hx hb dX9_named_34 rfl (lv_at hl 0 rfl) ?_
      refine va_get (D := (dC, dI)) (ci := 11) (v := .int jt_1) (C := RX9) (T := TX9) (N := 38) hx hb hts hin9 hown hK hP 0 rfl rfl 13 (by decide) (hts (.fieldLink RX9 91 "BlockLogModel" "thrown" "I") (by decide +kernel)) (fun _ h9 => h9) rfl dX9_named_35 ?_
      refine lv_if_gt (tgt := 50) hx hb dX9_named_38 (by decide) (fun c_1 => ?_) (fun c_1 => ?_)
      · skip
        have ic_1 := iv_lt c_1
        refine lv_iconst (v := 0) hx hb dX9_named_50 (by decide) ?_
        exact W.zret hx hb hr rfl (fun t ht hW => ⟨⟨_, _, rfl, rfl, jt_1, st 16, st 17, st 21, st 22, st 24, st 26, st 30, lg 23, lg 27, ai 19, ai 20, ai 25, al 18, al 28, al 29, (by omega), (by omega), (by omega), (by omega), (by omega), (by omega), (by omega), (by omega), (by omega), (by omega), (by omega), (by omega), (by omega), (by omega), (by omega), (by omega), hR25, by rw [ht]; exact hP⟩, hS.F ht⟩) hS.2.2 dX9_named_51
      · skip
        have ic_1 := iv_nlt c_1
        refine lv_aload_n hx hb dX9_named_41 rfl (lv_at hl 0 rfl) ?_
        refine lv_iload_n hx hb dX9_named_42 rfl (lv_at hl 1 rfl) ?_
        refine vp_callSi (va_Run.run (va_runV (As := [.int p0]) (rest := []) ⟨hx, hb, hml, hown, hts⟩ (v_X9_pageState l dC dI o c kc (rU st 13 jt_1) lg ai al p0 (by omega) (by omega)) (cwV 1 hts gX9_named_X9_pageState rfl rfl rfl (by decide +kernel) ⟨Nat.le_of_ble_eq_true rfl, Nat.le_of_ble_eq_true rfl⟩) ⟨fun a U g mk q => by obtain ⟨q0, qP, qK⟩ := q; exact ⟨q0, qP, va_K.moved (u := U) (U := U.calling g mk a) (Vm.Alike.refl U.vm) qK⟩, va_recv hK hP (ci := 11) (q := (RX9, TX9, 38)) rfl (q0 := 0) rfl, fun U hU hW => ⟨rfl, by rw [hU]; exact hP, va_K.moved hW.alike hK⟩⟩ rfl rfl hl.1 rfl (lv_room (Nat.le_of_ble_eq_true rfl)) dX9_named_43 ⟨Nat.le_of_ble_eq_true rfl, Nat.le_of_ble_eq_true rfl⟩)) (fun r_2 er_2 => ?_)
        obtain ⟨k_3, k_4, hrt⟩ := er_2
        have hrt : (r_2.toInt = 1 → rtQ (ai 0) p0) ∧ (r_2.toInt ≠ 1 → ¬ rtQ (ai 0) p0) := hrt
        refine lv_iconst (v := 1) hx hb dX9_named_46 (by decide) ?_
        refine lv_icmp_eq (tgt := 52) hx hb dX9_named_47 (by decide) (fun c_5 => ?_) (fun c_5 => ?_)
        · skip
          have ic_5 := iv_eq c_5
          refine lv_aload_n hx hb dX9_named_52 rfl (lv_at hl 0 rfl) ?_
          have hFc := vfree (rw_D hD : va_D A (rw_W o c kc (rU st 13 jt_1) lg ai al)) hS hA
          refine va_callv (va_runV (As := []) (rest := []) ⟨hx, hb, hml, hown, hts⟩ (v_X9_read l dC dI o c kc (rU st 13 jt_1) lg ai al  _ (show 0 ≤ (st 7).toInt by omega) (show (st 7).toInt ≤ 1 by omega) (show 0 ≤ (st 15).toInt by omega) (show (st 15).toInt ≤ 128 by omega) (show 0 ≤ (st 16).toInt by omega) (show (st 16).toInt ≤ 128 by omega) (show 0 ≤ (st 17).toInt by omega) (show (st 17).toInt ≤ 1 by omega) (show -1 ≤ (st 21).toInt by omega) (show (st 21).toInt ≤ 127 by omega) (show 0 ≤ (st 22).toInt by omega) (show (st 22).toInt ≤ 1000000 by omega) (show 0 ≤ (st 24).toInt by omega) (show (st 24).toInt ≤ 1 by omega) (show 0 ≤ (st 26).toInt by omega) (show (st 26).toInt ≤ 2000000 by omega) (show aR (ai 25) 130 (0) 127 from hR25)) (cwV 0 hts gX9_named_X9_read rfl rfl rfl (by decide +kernel) ⟨Nat.le_of_ble_eq_true rfl, Nat.le_of_ble_eq_true rfl⟩) ⟨fun a U g mk q => by obtain ⟨q0, q1, qP, qK, qD⟩ := q; exact ⟨q0, q1, qP, va_K.moved (u := U) (U := U.calling g mk a) (Vm.Alike.refl U.vm) qK, qD⟩, va_recv hK hP (ci := 11) (q := (RX9, TX9, 38)) rfl (q0 := 0) rfl, fun U hU hW => ⟨rfl, by rw [hU], by rw [hU]; exact hP, va_K.moved hW.alike hK, rw_D (hD.weaken (fun _ _ _ _ => trivial))⟩⟩ rfl rfl hl.1 rfl (lv_room (Nat.le_of_ble_eq_true rfl)) dX9_named_53 ⟨Nat.le_of_ble_eq_true rfl, Nat.le_of_ble_eq_true rfl⟩) hS (fun q _ h => hFc q h) hFc (fun ur_6 t H1 locs ht hvm er_6 hB hz1 hk1 hS => ?_)
          obtain ⟨x16_6, x17_6, x21_6, x22_6, x24_6, x26_6, y23_6, y27_6, f19_6, f20_6, f25_6, g18_6, k_7, k_8, k_9, k_10, k_11, k_12, k_13, k_14, k_15, k_16, k_17, k_18, k_19, k_20, k_21, k_22, k_23, hR25, hG, hC, hV, hBs, hP1⟩ := hB
          rw [ht] at hP1
          clear hFc hz1 hk1 hvm hP
          subst ht
          have hP := hP1
          clear hP1
          generalize t.heap = H at hP hS ⊢
          have hP : va_P (dC, dI) vwCl (rw_W o c kc (rU (rU (rU (rU (rU (rU (rU st 13 jt_1) 16 x16_6) 17 x17_6) 21 x21_6) 22 x22_6) 24 x24_6) 26 x26_6) (rU (rU lg 23 y23_6) 27 y27_6) (rU (rU (rU ai 19 f19_6) 20 f20_6) 25 f25_6) (rU al 18 g18_6)) H := hP
          have k_7 : x16_6.toInt = (st 15).toInt := k_7
          have k_8 : 0 ≤ x26_6.toInt - x22_6.toInt := k_8
          have k_9 : x26_6.toInt - x22_6.toInt ≤ 128 := k_9
          have k_10 : (x21_6.toInt = -1 ∨ (rK (ai 0) (st 7) x21_6).toInt = 1) := k_10
          have k_11 : x21_6.toInt < x16_6.toInt := k_11
          have k_12 : 0 ≤ x16_6.toInt := k_12
          have k_13 : x16_6.toInt ≤ 128 := k_13
          have k_14 : 0 ≤ x17_6.toInt := k_14
          have k_15 : x17_6.toInt ≤ 1 := k_15
          have k_16 : -1 ≤ x21_6.toInt := k_16
          have k_17 : x21_6.toInt ≤ 127 := k_17
          have k_18 : 0 ≤ x22_6.toInt := k_18
          have k_19 : x22_6.toInt ≤ 1000000 := k_19
          have k_20 : 0 ≤ x24_6.toInt := k_20
          have k_21 : x24_6.toInt ≤ 1 := k_21
          have k_22 : 0 ≤ x26_6.toInt := k_22
          have k_23 : x26_6.toInt ≤ 2000000 := k_23
          have hR25 : aR f25_6 130 (0) 127 := hR25
          have hG : gOK (ai 0) (st 7) x16_6 f19_6 := hG
          have hC : cOK (ai 0) (st 7) x16_6 f20_6 := hC
          have hV : vOK (ai 0) (st 7) x16_6 f25_6 (x26_6.toInt - x22_6.toInt) := hV
          have hBs : bOK (ai 0) (st 7) x16_6 x24_6 := hBs
          refine lv_aload_n hx hb dX9_named_56 rfl (lv_at hl 0 rfl) ?_
          refine va_get (D := (dC, dI)) (ci := 11) (v := .int x17_6) (C := RX9) (T := TX9) (N := 38) hx hb hts hin9 hown hK hP 0 rfl rfl 17 (by decide) (hts (.fieldLink RX9 176 "BlockLogModel" "needs" "Z") (by decide +kernel)) (fun _ h9 => h9) rfl dX9_named_57 ?_
          refine lv_if_eq (tgt := 65) hx hb dX9_named_60 (by decide) (fun c_24 => ?_) (fun c_24 => ?_)
          · skip
            have ic_24 := iv_eq c_24
            refine lv_aload_n hx hb dX9_named_65 rfl (lv_at hl 0 rfl) ?_
            have hFc := vfree (rw_D hD : va_D A (rw_W o c kc (rU (rU (rU (rU (rU (rU (rU st 13 jt_1) 16 x16_6) 17 x17_6) 21 x21_6) 22 x22_6) 24 x24_6) 26 x26_6) (rU (rU lg 23 y23_6) 27 y27_6) (rU (rU (rU ai 19 f19_6) 20 f20_6) 25 f25_6) (rU al 18 g18_6))) hS hA
            refine va_callv (va_runV (As := []) (rest := []) ⟨hx, hb, hml, hown, hts⟩ (v_X9_nameAll l dC dI o c kc (rU (rU (rU (rU (rU (rU (rU st 13 jt_1) 16 x16_6) 17 x17_6) 21 x21_6) 22 x22_6) 24 x24_6) 26 x26_6) (rU (rU lg 23 y23_6) 27 y27_6) (rU (rU (rU ai 19 f19_6) 20 f20_6) 25 f25_6) (rU al 18 g18_6)  _ (show 0 ≤ (st 7).toInt by omega) (show (st 7).toInt ≤ 1 by omega) (show 0 ≤ x16_6.toInt by omega) (show x16_6.toInt ≤ 128 by omega) (show 0 ≤ x22_6.toInt by omega) (show x22_6.toInt ≤ 1000000 by omega) (show 0 ≤ x24_6.toInt by omega) (show x24_6.toInt ≤ 1 by omega) (show 0 ≤ x26_6.toInt by omega) (show x26_6.toInt ≤ 2000000 by omega) (show 0 ≤ (st 30).toInt by omega) (show (st 30).toInt ≤ 128 by omega) (show 0 ≤ x26_6.toInt - x22_6.toInt by omega) (show x26_6.toInt - x22_6.toInt ≤ 128 by omega) (show aR f25_6 130 (0) 127 from hR25) (show gOK (ai 0) (st 7) x16_6 f19_6 from (by assumption)) (show vOK (ai 0) (st 7) x16_6 f25_6 (x26_6.toInt - x22_6.toInt) from (by assumption)) (show bOK (ai 0) (st 7) x16_6 x24_6 from (by assumption))) (cwV 0 hts gX9_named_X9_nameAll rfl rfl rfl (by decide +kernel) ⟨Nat.le_of_ble_eq_true rfl, Nat.le_of_ble_eq_true rfl⟩) ⟨fun a U g mk q => by obtain ⟨q0, q1, qP, qK, qD⟩ := q; exact ⟨q0, q1, qP, va_K.moved (u := U) (U := U.calling g mk a) (Vm.Alike.refl U.vm) qK, qD⟩, va_recv hK hP (ci := 11) (q := (RX9, TX9, 38)) rfl (q0 := 0) rfl, fun U hU hW => ⟨rfl, by rw [hU], by rw [hU]; exact hP, va_K.moved hW.alike hK, rw_D (hD.weaken (fun _ _ _ _ => trivial))⟩⟩ rfl rfl hl.1 rfl (lv_room (Nat.le_of_ble_eq_true rfl)) dX9_named_66 ⟨Nat.le_of_ble_eq_true rfl, Nat.le_of_ble_eq_true rfl⟩) hS (fun q _ h => hFc q h) hFc (fun ur_25 t H1 locs ht hvm er_25 hB hz1 hk1 hS => ?_)
            obtain ⟨x30_25, g28_25, g29_25, k_26, k_27, hN, hP1⟩ := hB
            rw [ht] at hP1
            clear hFc hz1 hk1 hvm hP
            subst ht
            have hP := hP1
            clear hP1
            generalize t.heap = H at hP hS ⊢
            have hP : va_P (dC, dI) vwCl (rw_W o c kc (rU (rU (rU (rU (rU (rU (rU (rU st 13 jt_1) 16 x16_6) 17 x17_6) 21 x21_6) 22 x22_6) 24 x24_6) 26 x26_6) 30 x30_25) (rU (rU lg 23 y23_6) 27 y27_6) (rU (rU (rU ai 19 f19_6) 20 f20_6) 25 f25_6) (rU (rU (rU al 18 g18_6) 28 g28_25) 29 g29_25)) H := hP
            have k_26 : 0 ≤ x30_25.toInt := k_26
            have k_27 : x30_25.toInt ≤ 128 := k_27
            have hN : nOK (ai 0) (st 7) g29_25 x30_25 := hN
            refine lv_aload_n hx hb dX9_named_69 rfl (lv_at hl 0 rfl) ?_
            refine lv_aload_n hx hb dX9_named_70 rfl (lv_at hl 0 rfl) ?_
            refine lv_iload_n hx hb dX9_named_71 rfl (lv_at hl 1 rfl) ?_
            refine vp_callSl (va_Run.run (va_runV (As := [.int p0]) (rest := [.ref o]) ⟨hx, hb, hml, hown, hts⟩ (v_X9_leafDigest l dC dI o c kc (rU (rU (rU (rU (rU (rU (rU (rU st 13 jt_1) 16 x16_6) 17 x17_6) 21 x21_6) 22 x22_6) 24 x24_6) 26 x26_6) 30 x30_25) (rU (rU lg 23 y23_6) 27 y27_6) (rU (rU (rU ai 19 f19_6) 20 f20_6) 25 f25_6) (rU (rU (rU al 18 g18_6) 28 g28_25) 29 g29_25) p0 (by omega) (by omega)) (cwV 1 hts gX9_named_X9_leafDigest rfl rfl rfl (by decide +kernel) ⟨Nat.le_of_ble_eq_true rfl, Nat.le_of_ble_eq_true rfl⟩) ⟨fun a U g mk q => by obtain ⟨q0, qP, qK⟩ := q; exact ⟨q0, qP, va_K.moved (u := U) (U := U.calling g mk a) (Vm.Alike.refl U.vm) qK⟩, va_recv hK hP (ci := 11) (q := (RX9, TX9, 38)) rfl (q0 := 0) rfl, fun U hU hW => ⟨rfl, by rw [hU]; exact hP, va_K.moved hW.alike hK⟩⟩ rfl rfl hl.1 rfl (lv_room (Nat.le_of_ble_eq_true rfl)) dX9_named_72 ⟨Nat.le_of_ble_eq_true rfl, Nat.le_of_ble_eq_true rfl⟩)) (fun r_28 er_28 => ?_)
            refine vp_callSi (va_Run.run (va_runV (As := [.long r_28]) (rest := []) ⟨hx, hb, hml, hown, hts⟩ (v_X9_isNamed l dC dI o c kc (rU (rU (rU (rU (rU (rU (rU (rU st 13 jt_1) 16 x16_6) 17 x17_6) 21 x21_6) 22 x22_6) 24 x24_6) 26 x26_6) 30 x30_25) (rU (rU lg 23 y23_6) 27 y27_6) (rU (rU (rU ai 19 f19_6) 20 f20_6) 25 f25_6) (rU (rU (rU al 18 g18_6) 28 g28_25) 29 g29_25) r_28 (show 0 ≤ x30_25.toInt by omega) (show x30_25.toInt ≤ 128 by omega)) (cwV 1 hts gX9_named_X9_isNamed rfl rfl rfl (by decide +kernel) ⟨Nat.le_of_ble_eq_true rfl, Nat.le_of_ble_eq_true rfl⟩) ⟨fun a U g mk q => by obtain ⟨q0, qP, qK⟩ := q; exact ⟨q0, qP, va_K.moved (u := U) (U := U.calling g mk a) (Vm.Alike.refl U.vm) qK⟩, va_recv hK hP (ci := 11) (q := (RX9, TX9, 38)) rfl (q0 := 0) rfl, fun U hU hW => ⟨rfl, by rw [hU]; exact hP, va_K.moved hW.alike hK⟩⟩ rfl rfl hl.1 rfl (lv_room (Nat.le_of_ble_eq_true rfl)) dX9_named_75 ⟨Nat.le_of_ble_eq_true rfl, Nat.le_of_ble_eq_true rfl⟩)) (fun r_29 er_29 => ?_)
            obtain ⟨k_30, k_31⟩ := er_29
            rcases iv_01 (a := r_29) (by omega) (by omega) with b_32 | b_32
            · skip
              have ib_32 := iv_eq b_32
              rw [b_32]
              exact W.zret hx hb hr rfl (fun t ht hW => ⟨⟨_, _, rfl, rfl, jt_1, x16_6, x17_6, x21_6, x22_6, x24_6, x26_6, x30_25, y23_6, y27_6, f19_6, f20_6, f25_6, g18_6, g28_25, g29_25, (by omega), (by omega), (by omega), (by omega), (by omega), (by omega), (by omega), (by omega), (by omega), (by omega), (by omega), (by omega), (by omega), (by omega), (by omega), (by omega), hR25, by rw [ht]; exact hP⟩, hS.F ht⟩) hS.2.2 dX9_named_78
            · skip
              have ib_32 := iv_eq b_32
              rw [b_32]
              exact W.zret hx hb hr rfl (fun t ht hW => ⟨⟨_, _, rfl, rfl, jt_1, x16_6, x17_6, x21_6, x22_6, x24_6, x26_6, x30_25, y23_6, y27_6, f19_6, f20_6, f25_6, g18_6, g28_25, g29_25, (by omega), (by omega), (by omega), (by omega), (by omega), (by omega), (by omega), (by omega), (by omega), (by omega), (by omega), (by omega), (by omega), (by omega), (by omega), (by omega), hR25, by rw [ht]; exact hP⟩, hS.F ht⟩) hS.2.2 dX9_named_78
          · skip
            have ic_24 := iv_ne c_24
            refine lv_iconst (v := 0) hx hb dX9_named_63 (by decide) ?_
            exact W.zret hx hb hr rfl (fun t ht hW => ⟨⟨_, _, rfl, rfl, jt_1, x16_6, x17_6, x21_6, x22_6, x24_6, x26_6, st 30, y23_6, y27_6, f19_6, f20_6, f25_6, g18_6, al 28, al 29, (by omega), (by omega), (by omega), (by omega), (by omega), (by omega), (by omega), (by omega), (by omega), (by omega), (by omega), (by omega), (by omega), (by omega), (by omega), (by omega), hR25, by rw [ht]; exact hP⟩, hS.F ht⟩) hS.2.2 dX9_named_64
        · skip
          have ic_5 := iv_ne c_5
          refine lv_iconst (v := 0) hx hb dX9_named_50 (by decide) ?_
          exact W.zret hx hb hr rfl (fun t ht hW => ⟨⟨_, _, rfl, rfl, jt_1, st 16, st 17, st 21, st 22, st 24, st 26, st 30, lg 23, lg 27, ai 19, ai 20, ai 25, al 18, al 28, al 29, (by omega), (by omega), (by omega), (by omega), (by omega), (by omega), (by omega), (by omega), (by omega), (by omega), (by omega), (by omega), (by omega), (by omega), (by omega), (by omega), hR25, by rw [ht]; exact hP⟩, hS.F ht⟩) hS.2.2 dX9_named_51
    refine lv_iload_n hx hb dX9_named_1 rfl (lv_at hl 1 rfl) ?_
    refine lv_iconst (v := 0) hx hb dX9_named_2 (by decide) ?_
    refine lv_aload_n hx hb dX9_named_3 rfl (lv_at hl 0 rfl) ?_
    refine va_get (D := (dC, dI)) (ci := 11) (v := .int (st 1)) (C := RX9) (T := TX9) (N := 38) hx hb hts hin9 hown hK hP 0 rfl rfl 1 (by decide) (hts (.fieldLink RX9 62 "BlockLogModel" "pages" "I") (by decide +kernel)) (fun _ h9 => h9) rfl dX9_named_4 ?_
    refine lv_iconst (v := 1) hx hb dX9_named_7 (by decide) ?_
    refine lv_isub hx hb dX9_named_8 ?_
    refine lv_topi (fun v_33 ev_33 => ?_)
    have rg1 := iv_rng (st 1)
    have hv_33 : v_33.toInt = (st 1).toInt - 1 := by rw [ev_33]; exact (iv_sub (by omega) (by omega)).trans (by omega)
    clear ev_33
    refine vp_callSi (va_Run.run (va_runS (As := [.int p0, .int (0 : Int32), .int v_33]) (rest := [.ref o]) ⟨hx, hb, hml, hown, hts⟩ (v_X9_within l dC dI p0 (0 : Int32) v_33 ) (va_cwS 3 hts gX9_named_X9_within rfl rfl rfl (by decide +kernel) ⟨Nat.le_of_ble_eq_true rfl, Nat.le_of_ble_eq_true rfl⟩) ⟨fun a U g mk q => q, fun U hU hW => ⟨rfl, trivial⟩⟩ rfl rfl hl.1 rfl (lv_room (Nat.le_of_ble_eq_true rfl)) dX9_named_9 ⟨Nat.le_of_ble_eq_true rfl, Nat.le_of_ble_eq_true rfl⟩)) (fun r_34 er_34 => ?_)
    obtain ⟨k_35, k_36, k_37, k_38, k_39⟩ := er_34
    rcases iv_01 (a := r_34) (by omega) (by omega) with b_40 | b_40
    · skip
      have ib_40 := iv_eq b_40
      rw [b_40]
      refine lv_if_ne (tgt := 19) hx hb dX9_named_12 (by decide) (fun c_41 => ?_) (fun c_41 => ?_)
      · skip
        have ic_41 := iv_ne c_41
        exfalso
        omega
      · skip
        have ic_41 := iv_eq c_41
        refine lv_iconst (v := 1) hx hb dX9_named_15 (by decide) ?_
        refine lv_goto (tgt := 31) hx hb dX9_named_16 (by decide) ?_
        exact join1 (1 : Int32) _ _ _ (by omega) (by omega) (by omega) hP hS (lv_sub hl [0, 1] rfl)
    · skip
      have ib_40 := iv_eq b_40
      rw [b_40]
      refine lv_if_ne (tgt := 19) hx hb dX9_named_12 (by decide) (fun c_42 => ?_) (fun c_42 => ?_)
      · skip
        have ic_42 := iv_ne c_42
        refine lv_aload_n hx hb dX9_named_19 rfl (lv_at hl 0 rfl) ?_
        refine va_get (D := (dC, dI)) (ci := 11) (v := .int (st 3)) (C := RX9) (T := TX9) (N := 38) hx hb hts hin9 hown hK hP 0 rfl rfl 3 (by decide) (hts (.fieldLink RX9 72 "BlockLogModel" "on" "Z") (by decide +kernel)) (fun _ h9 => h9) rfl dX9_named_20 ?_
        refine lv_if_ne (tgt := 30) hx hb dX9_named_23 (by decide) (fun c_43 => ?_) (fun c_43 => ?_)
        · skip
          have ic_43 := iv_ne c_43
          refine lv_iconst (v := 0) hx hb dX9_named_30 (by decide) ?_
          exact join1 (0 : Int32) _ _ _ (by omega) (by omega) (by omega) hP hS (lv_sub hl [0, 1] rfl)
        · skip
          have ic_43 := iv_eq c_43
          refine lv_iconst (v := 2) hx hb dX9_named_26 (by decide) ?_
          refine lv_goto (tgt := 31) hx hb dX9_named_27 (by decide) ?_
          exact join1 (2 : Int32) _ _ _ (by omega) (by omega) (by omega) hP hS (lv_sub hl [0, 1] rfl)
      · skip
        have ic_42 := iv_eq c_42
        exfalso
        omega
  exact main s.heap [] hP hS

set_option maxHeartbeats 4000000 in
set_option maxRecDepth 100000 in
theorem v_X9_sweep (l : Launch) (dC : Nat → ClassId) (dI : Nat → Nat → Nat) (o : Nat) (c : Nat → Nat) (kc : Nat → ClassId) (st : Nat → Int32) (lg : Nat → Int64) (ai : Nat → Nat → Int32) (al : Nat → Nat → Int64)  (sz : Nat) (hf1a : 1 ≤ (st 1).toInt) (hf1b : (st 1).toInt ≤ 65536) (hf3a : 0 ≤ (st 3).toInt) (hf3b : (st 3).toInt ≤ 1) (hf6a : 0 ≤ (st 6).toInt) (hf6b : (st 6).toInt ≤ 1) (hf7a : 0 ≤ (st 7).toInt) (hf7b : (st 7).toInt ≤ 1) (hf12a : 0 ≤ (st 12).toInt) (hf12b : (st 12).toInt ≤ 8) (hf15a : 0 ≤ (st 15).toInt) (hf15b : (st 15).toInt ≤ 128) (hf16a : 0 ≤ (st 16).toInt) (hf16b : (st 16).toInt ≤ 128) (hf17a : 0 ≤ (st 17).toInt) (hf17b : (st 17).toInt ≤ 1) (hf21a : -1 ≤ (st 21).toInt) (hf21b : (st 21).toInt ≤ 127) (hf22a : 0 ≤ (st 22).toInt) (hf22b : (st 22).toInt ≤ 1000000) (hf24a : 0 ≤ (st 24).toInt) (hf24b : (st 24).toInt ≤ 1) (hf26a : 0 ≤ (st 26).toInt) (hf26b : (st 26).toInt ≤ 2000000) (hf30a : 0 ≤ (st 30).toInt) (hf30b : (st 30).toInt ≤ 128) (hR25 : aR (ai 25) 130 (0) 127) : Met l yX9_sweep wsX9_sweep ({ frames := 7, cells := 0, slots := 0, locals := 159 }) (va_Pc [.ref o] (fun U => U.heap.size = sz ∧ va_P (dC, dI) vwCl (rw_W o c kc st lg ai al) U.heap ∧ va_K (dC, dI) vwCl (rw_T kc) U ∧ va_D (fun _ => True) (rw_W o c kc st lg ai al))) (va_Qi (fun r (u : Int32) => r = u) (fun u t => ∃ (x3 : Int32) (x4 : Int32) (x5 : Int32) (x6 : Int32) (x12 : Int32) (x16 : Int32) (x17 : Int32) (x21 : Int32) (x22 : Int32) (x24 : Int32) (x26 : Int32) (x30 : Int32) (y23 : Int64) (y27 : Int64) (f0 : Nat → Int32) (f19 : Nat → Int32) (f20 : Nat → Int32) (f25 : Nat → Int32) (g18 : Nat → Int64) (g28 : Nat → Int64) (g29 : Nat → Int64), (0 ≤ x3.toInt) ∧ (x3.toInt ≤ 1) ∧ (0 ≤ x6.toInt) ∧ (x6.toInt ≤ 1) ∧ (0 ≤ x12.toInt) ∧ (x12.toInt ≤ 8) ∧ (0 ≤ x16.toInt) ∧ (x16.toInt ≤ 128) ∧ (0 ≤ x17.toInt) ∧ (x17.toInt ≤ 1) ∧ (-1 ≤ x21.toInt) ∧ (x21.toInt ≤ 127) ∧ (0 ≤ x22.toInt) ∧ (x22.toInt ≤ 1000000) ∧ (0 ≤ x24.toInt) ∧ (x24.toInt ≤ 1) ∧ (0 ≤ x26.toInt) ∧ (x26.toInt ≤ 2000000) ∧ (0 ≤ x30.toInt) ∧ (x30.toInt ≤ 128) ∧ (aR f25 130 (0) 127) ∧ va_P (dC, dI) vwCl (rw_W o c kc (rU (rU (rU (rU (rU (rU (rU (rU (rU (rU (rU (rU st 3 x3) 4 x4) 5 x5) 6 x6) 12 x12) 16 x16) 17 x17) 21 x21) 22 x22) 24 x24) 26 x26) 30 x30) (rU (rU lg 23 y23) 27 y27) (rU (rU (rU (rU ai 0 f0) 19 f19) 20 f20) 25 f25) (rU (rU (rU al 18 g18) 28 g28) 29 g29)) t.heap) (va_A (rw_W o c kc st lg ai al) sz)) 0 0 (va_A (rw_W o c kc st lg ai al) sz) := by
  refine Met.ofW (cc := cX9_sweep) (maxL := 3) (ret := (some .int)) (by decide) rfl ?_
  intro p e s m args below meth cM s₁ B hml hv
  obtain ⟨rfl, hsz, hP, hK, hD0⟩ := hv
  have hx := B.exec
  have hb := B.bytes
  have hr := B.returns
  have hts := atoms_spec (ws := wsX9_sweep) B.pre
  have hown : s.vm.findClass RX9 = some m.cls := findClass_of_methodNamed B.named
  subst hsz
  have hD := hD0.self (sz := s.heap.size)
  generalize hAe : va_A (rw_W o c kc st lg ai al) s.heap.size = A at hD ⊢
  have hA : ∀ q : Nat, s.heap.size ≤ q → A q := fun q h => by rw [← hAe]; exact Or.inr h
  have hS : va_S A s.heap s.heap [] := va_S.rf
  clear hAe hD0
  have hl := lv_entry ([.ref o]) (n := 3) (Nat.le_of_ble_eq_true rfl)
  rw [lg_entry_eq]
  generalize (lg_sl ([.ref o]) ++ List.replicate (3 - (lg_sl ([.ref o])).length) Slot.unset).toArray = ls at hl ⊢
  have hl : lv_has ls 3 [(0, .ref o)] := hl
  have z_m4 : (-4 : Int32).toInt = -4 := by decide
  have z_0 : (0 : Int32).toInt = 0 := by decide
  have z_1 : (1 : Int32).toInt = 1 := by decide
  have z_26 : (26 : Int32).toInt = 26 := by decide
  have hin9 : ∀ w ∈ u_ws RX9 TX9 38, w ∈ wsX9_sweep := by decide +kernel
  have main : ∀ (H : Heap) (locs : List Loc), va_P (dC, dI) vwCl (rw_W o c kc st lg ai al) H → va_S A s.heap H locs → W p l e (headSpec wsX9_sweep ({ frames := 7, cells := 0, slots := 0, locals := 159 })).room s m ([.ref o] : List Value).toArray below meth cM H locs 0 0 (MQ below (va_Qi (fun r (u : Int32) => r = u) (fun u t => ∃ (x3 : Int32) (x4 : Int32) (x5 : Int32) (x6 : Int32) (x12 : Int32) (x16 : Int32) (x17 : Int32) (x21 : Int32) (x22 : Int32) (x24 : Int32) (x26 : Int32) (x30 : Int32) (y23 : Int64) (y27 : Int64) (f0 : Nat → Int32) (f19 : Nat → Int32) (f20 : Nat → Int32) (f25 : Nat → Int32) (g18 : Nat → Int64) (g28 : Nat → Int64) (g29 : Nat → Int64), (0 ≤ x3.toInt) ∧ (x3.toInt ≤ 1) ∧ (0 ≤ x6.toInt) ∧ (x6.toInt ≤ 1) ∧ (0 ≤ x12.toInt) ∧ (x12.toInt ≤ 8) ∧ (0 ≤ x16.toInt) ∧ (x16.toInt ≤ 128) ∧ (0 ≤ x17.toInt) ∧ (x17.toInt ≤ 1) ∧ (-1 ≤ x21.toInt) ∧ (x21.toInt ≤ 127) ∧ (0 ≤ x22.toInt) ∧ (x22.toInt ≤ 1000000) ∧ (0 ≤ x24.toInt) ∧ (x24.toInt ≤ 1) ∧ (0 ≤ x26.toInt) ∧ (x26.toInt ≤ 2000000) ∧ (0 ≤ x30.toInt) ∧ (x30.toInt ≤ 128) ∧ (aR f25 130 (0) 127) ∧ va_P (dC, dI) vwCl (rw_W o c kc (rU (rU (rU (rU (rU (rU (rU (rU (rU (rU (rU (rU st 3 x3) 4 x4) 5 x5) 6 x6) 12 x12) 16 x16) 17 x17) 21 x21) 22 x22) 24 x24) 26 x26) 30 x30) (rU (rU lg 23 y23) 27 y27) (rU (rU (rU (rU ai 0 f0) 19 f19) 20 f20) 25 f25) (rU (rU (rU al 18 g18) 28 g28) 29 g29)) t.heap) A) ([.ref o] : List Value).toArray s 0 0 A) (F0 m 0 ls []) := by
    intro H locs hP hS
    refine lv_aload_n hx hb dX9_sweep_0 rfl (lv_at hl 0 rfl) ?_
    have hFc := vfree (rw_D hD : va_D A (rw_W o c kc st lg ai al)) hS hA
    refine va_callv (va_runV (As := []) (rest := []) ⟨hx, hb, hml, hown, hts⟩ (v_X9_read l dC dI o c kc st lg ai al  _ (show 0 ≤ (st 7).toInt by omega) (show (st 7).toInt ≤ 1 by omega) (show 0 ≤ (st 15).toInt by omega) (show (st 15).toInt ≤ 128 by omega) (show 0 ≤ (st 16).toInt by omega) (show (st 16).toInt ≤ 128 by omega) (show 0 ≤ (st 17).toInt by omega) (show (st 17).toInt ≤ 1 by omega) (show -1 ≤ (st 21).toInt by omega) (show (st 21).toInt ≤ 127 by omega) (show 0 ≤ (st 22).toInt by omega) (show (st 22).toInt ≤ 1000000 by omega) (show 0 ≤ (st 24).toInt by omega) (show (st 24).toInt ≤ 1 by omega) (show 0 ≤ (st 26).toInt by omega) (show (st 26).toInt ≤ 2000000 by omega) (show aR (ai 25) 130 (0) 127 from hR25)) (cwV 0 hts gX9_sweep_X9_read rfl rfl rfl (by decide +kernel) ⟨Nat.le_of_ble_eq_true rfl, Nat.le_of_ble_eq_true rfl⟩) ⟨fun a U g mk q => by obtain ⟨q0, q1, qP, qK, qD⟩ := q; exact ⟨q0, q1, qP, va_K.moved (u := U) (U := U.calling g mk a) (Vm.Alike.refl U.vm) qK, qD⟩, va_recv hK hP (ci := 11) (q := (RX9, TX9, 38)) rfl (q0 := 0) rfl, fun U hU hW => ⟨rfl, by rw [hU], by rw [hU]; exact hP, va_K.moved hW.alike hK, rw_D (hD.weaken (fun _ _ _ _ => trivial))⟩⟩ rfl rfl hl.1 rfl (lv_room (Nat.le_of_ble_eq_true rfl)) dX9_sweep_1 ⟨Nat.le_of_ble_eq_true rfl, Nat.le_of_ble_eq_true rfl⟩) hS (fun q _ h => hFc q h) hFc (fun ur_1 t H1 locs ht hvm er_1 hB hz1 hk1 hS => ?_)
    obtain ⟨x16_1, x17_1, x21_1, x22_1, x24_1, x26_1, y23_1, y27_1, f19_1, f20_1, f25_1, g18_1, k_2, k_3, k_4, k_5, k_6, k_7, k_8, k_9, k_10, k_11, k_12, k_13, k_14, k_15, k_16, k_17, k_18, hR25, hG, hC, hV, hBs, hP1⟩ := hB
    rw [ht] at hP1
    clear hFc hz1 hk1 hvm hP
    subst ht
    have hP := hP1
    clear hP1
    generalize t.heap = H at hP hS ⊢
    have hP : va_P (dC, dI) vwCl (rw_W o c kc (rU (rU (rU (rU (rU (rU st 16 x16_1) 17 x17_1) 21 x21_1) 22 x22_1) 24 x24_1) 26 x26_1) (rU (rU lg 23 y23_1) 27 y27_1) (rU (rU (rU ai 19 f19_1) 20 f20_1) 25 f25_1) (rU al 18 g18_1)) H := hP
    have k_2 : x16_1.toInt = (st 15).toInt := k_2
    have k_3 : 0 ≤ x26_1.toInt - x22_1.toInt := k_3
    have k_4 : x26_1.toInt - x22_1.toInt ≤ 128 := k_4
    have k_5 : (x21_1.toInt = -1 ∨ (rK (ai 0) (st 7) x21_1).toInt = 1) := k_5
    have k_6 : x21_1.toInt < x16_1.toInt := k_6
    have k_7 : 0 ≤ x16_1.toInt := k_7
    have k_8 : x16_1.toInt ≤ 128 := k_8
    have k_9 : 0 ≤ x17_1.toInt := k_9
    have k_10 : x17_1.toInt ≤ 1 := k_10
    have k_11 : -1 ≤ x21_1.toInt := k_11
    have k_12 : x21_1.toInt ≤ 127 := k_12
    have k_13 : 0 ≤ x22_1.toInt := k_13
    have k_14 : x22_1.toInt ≤ 1000000 := k_14
    have k_15 : 0 ≤ x24_1.toInt := k_15
    have k_16 : x24_1.toInt ≤ 1 := k_16
    have k_17 : 0 ≤ x26_1.toInt := k_17
    have k_18 : x26_1.toInt ≤ 2000000 := k_18
    have hR25 : aR f25_1 130 (0) 127 := hR25
    have hG : gOK (ai 0) (st 7) x16_1 f19_1 := hG
    have hC : cOK (ai 0) (st 7) x16_1 f20_1 := hC
    have hV : vOK (ai 0) (st 7) x16_1 f25_1 (x26_1.toInt - x22_1.toInt) := hV
    have hBs : bOK (ai 0) (st 7) x16_1 x24_1 := hBs
    refine lv_aload_n hx hb dX9_sweep_4 rfl (lv_at hl 0 rfl) ?_
    have hFc := vfree (rw_D hD : va_D A (rw_W o c kc (rU (rU (rU (rU (rU (rU st 16 x16_1) 17 x17_1) 21 x21_1) 22 x22_1) 24 x24_1) 26 x26_1) (rU (rU lg 23 y23_1) 27 y27_1) (rU (rU (rU ai 19 f19_1) 20 f20_1) 25 f25_1) (rU al 18 g18_1))) hS hA
    refine va_callv (va_runV (As := []) (rest := []) ⟨hx, hb, hml, hown, hts⟩ (v_X9_nameAll l dC dI o c kc (rU (rU (rU (rU (rU (rU st 16 x16_1) 17 x17_1) 21 x21_1) 22 x22_1) 24 x24_1) 26 x26_1) (rU (rU lg 23 y23_1) 27 y27_1) (rU (rU (rU ai 19 f19_1) 20 f20_1) 25 f25_1) (rU al 18 g18_1)  _ (show 0 ≤ (st 7).toInt by omega) (show (st 7).toInt ≤ 1 by omega) (show 0 ≤ x16_1.toInt by omega) (show x16_1.toInt ≤ 128 by omega) (show 0 ≤ x22_1.toInt by omega) (show x22_1.toInt ≤ 1000000 by omega) (show 0 ≤ x24_1.toInt by omega) (show x24_1.toInt ≤ 1 by omega) (show 0 ≤ x26_1.toInt by omega) (show x26_1.toInt ≤ 2000000 by omega) (show 0 ≤ (st 30).toInt by omega) (show (st 30).toInt ≤ 128 by omega) (show 0 ≤ x26_1.toInt - x22_1.toInt by omega) (show x26_1.toInt - x22_1.toInt ≤ 128 by omega) (show aR f25_1 130 (0) 127 from hR25) (show gOK (ai 0) (st 7) x16_1 f19_1 from (by assumption)) (show vOK (ai 0) (st 7) x16_1 f25_1 (x26_1.toInt - x22_1.toInt) from (by assumption)) (show bOK (ai 0) (st 7) x16_1 x24_1 from (by assumption))) (cwV 0 hts gX9_sweep_X9_nameAll rfl rfl rfl (by decide +kernel) ⟨Nat.le_of_ble_eq_true rfl, Nat.le_of_ble_eq_true rfl⟩) ⟨fun a U g mk q => by obtain ⟨q0, q1, qP, qK, qD⟩ := q; exact ⟨q0, q1, qP, va_K.moved (u := U) (U := U.calling g mk a) (Vm.Alike.refl U.vm) qK, qD⟩, va_recv hK hP (ci := 11) (q := (RX9, TX9, 38)) rfl (q0 := 0) rfl, fun U hU hW => ⟨rfl, by rw [hU], by rw [hU]; exact hP, va_K.moved hW.alike hK, rw_D (hD.weaken (fun _ _ _ _ => trivial))⟩⟩ rfl rfl hl.1 rfl (lv_room (Nat.le_of_ble_eq_true rfl)) dX9_sweep_5 ⟨Nat.le_of_ble_eq_true rfl, Nat.le_of_ble_eq_true rfl⟩) hS (fun q _ h => hFc q h) hFc (fun ur_19 t H1 locs ht hvm er_19 hB hz1 hk1 hS => ?_)
    obtain ⟨x30_19, g28_19, g29_19, k_20, k_21, hN, hP1⟩ := hB
    rw [ht] at hP1
    clear hFc hz1 hk1 hvm hP
    subst ht
    have hP := hP1
    clear hP1
    generalize t.heap = H at hP hS ⊢
    have hP : va_P (dC, dI) vwCl (rw_W o c kc (rU (rU (rU (rU (rU (rU (rU st 16 x16_1) 17 x17_1) 21 x21_1) 22 x22_1) 24 x24_1) 26 x26_1) 30 x30_19) (rU (rU lg 23 y23_1) 27 y27_1) (rU (rU (rU ai 19 f19_1) 20 f20_1) 25 f25_1) (rU (rU (rU al 18 g18_1) 28 g28_19) 29 g29_19)) H := hP
    have k_20 : 0 ≤ x30_19.toInt := k_20
    have k_21 : x30_19.toInt ≤ 128 := k_21
    have hN : nOK (ai 0) (st 7) g29_19 x30_19 := hN
    refine lv_iconst (v := 0) hx hb dX9_sweep_8 (by decide) ?_
    refine lv_istore_n (lv' := [(1, .int (0 : Int32)), (0, .ref o)]) hx hb dX9_sweep_9 rfl hl (by decide) rfl (fun ls hl => ?_)
    refine lv_iconst (v := 0) hx hb dX9_sweep_10 (by decide) ?_
    refine lv_istore_n (lv' := [(2, .int (0 : Int32)), (1, .int (0 : Int32)), (0, .ref o)]) hx hb dX9_sweep_11 rfl hl (by decide) rfl (fun ls hl => ?_)
    have loop12 : ∀ (n : Nat) (l2_12 : Int32) (l1_12 : Int32) (s3_12 : Int32) (s4_12 : Int32) (s5_12 : Int32) (s6_12 : Int32) (s12_12 : Int32) (a0_12 : Nat → Int32) (H : Heap) (locs : List Loc) (ls : Array Slot), (0 ≤ l1_12.toInt) → (l1_12.toInt ≤ l2_12.toInt) → (0 ≤ l2_12.toInt) → (l2_12.toInt ≤ (st 1).toInt) → (0 ≤ s3_12.toInt) → (s3_12.toInt ≤ 1) → (0 ≤ s6_12.toInt) → (s6_12.toInt ≤ 1) → (0 ≤ s12_12.toInt) → (s12_12.toInt ≤ 8) → ((st 1).toInt - l2_12.toInt : Int).toNat < n → va_P (dC, dI) vwCl (rw_W o c kc (rU (rU (rU (rU (rU (rU (rU (rU (rU (rU (rU (rU st 3 s3_12) 4 s4_12) 5 s5_12) 6 s6_12) 12 s12_12) 16 x16_1) 17 x17_1) 21 x21_1) 22 x22_1) 24 x24_1) 26 x26_1) 30 x30_19) (rU (rU lg 23 y23_1) 27 y27_1) (rU (rU (rU (rU ai 0 a0_12) 19 f19_1) 20 f20_1) 25 f25_1) (rU (rU (rU al 18 g18_1) 28 g28_19) 29 g29_19)) H → va_S A s.heap H locs → lv_has ls 3 [(2, .int l2_12), (1, .int l1_12), (0, .ref o)] → W p l e (headSpec wsX9_sweep ({ frames := 7, cells := 0, slots := 0, locals := 159 })).room s m ([.ref o] : List Value).toArray below meth cM H locs 0 0 (MQ below (va_Qi (fun r (u : Int32) => r = u) (fun u t => ∃ (x3 : Int32) (x4 : Int32) (x5 : Int32) (x6 : Int32) (x12 : Int32) (x16 : Int32) (x17 : Int32) (x21 : Int32) (x22 : Int32) (x24 : Int32) (x26 : Int32) (x30 : Int32) (y23 : Int64) (y27 : Int64) (f0 : Nat → Int32) (f19 : Nat → Int32) (f20 : Nat → Int32) (f25 : Nat → Int32) (g18 : Nat → Int64) (g28 : Nat → Int64) (g29 : Nat → Int64), (0 ≤ x3.toInt) ∧ (x3.toInt ≤ 1) ∧ (0 ≤ x6.toInt) ∧ (x6.toInt ≤ 1) ∧ (0 ≤ x12.toInt) ∧ (x12.toInt ≤ 8) ∧ (0 ≤ x16.toInt) ∧ (x16.toInt ≤ 128) ∧ (0 ≤ x17.toInt) ∧ (x17.toInt ≤ 1) ∧ (-1 ≤ x21.toInt) ∧ (x21.toInt ≤ 127) ∧ (0 ≤ x22.toInt) ∧ (x22.toInt ≤ 1000000) ∧ (0 ≤ x24.toInt) ∧ (x24.toInt ≤ 1) ∧ (0 ≤ x26.toInt) ∧ (x26.toInt ≤ 2000000) ∧ (0 ≤ x30.toInt) ∧ (x30.toInt ≤ 128) ∧ (aR f25 130 (0) 127) ∧ va_P (dC, dI) vwCl (rw_W o c kc (rU (rU (rU (rU (rU (rU (rU (rU (rU (rU (rU (rU st 3 x3) 4 x4) 5 x5) 6 x6) 12 x12) 16 x16) 17 x17) 21 x21) 22 x22) 24 x24) 26 x26) 30 x30) (rU (rU lg 23 y23) 27 y27) (rU (rU (rU (rU ai 0 f0) 19 f19) 20 f20) 25 f25) (rU (rU (rU al 18 g18) 28 g28) 29 g29)) t.heap) A) ([.ref o] : List Value).toArray s 0 0 A) (F0 m 12 ls []) := by
      intro n
      induction n with
      | zero => intro l2_12 l1_12 s3_12 s4_12 s5_12 s6_12 s12_12 a0_12 H locs ls if0_12 if1_12 if2_12 if3_12 if4_12 if5_12 if6_12 if7_12 if8_12 if9_12 hm; exact absurd hm (Nat.not_lt_zero _)
      | succ n ih12 =>
        intro l2_12 l1_12 s3_12 s4_12 s5_12 s6_12 s12_12 a0_12 H locs ls if0_12 if1_12 if2_12 if3_12 if4_12 if5_12 if6_12 if7_12 if8_12 if9_12 hm12 hP hS hl
        refine lv_iload_n hx hb dX9_sweep_12 rfl (lv_at hl 0 rfl) ?_
        refine lv_aload_n hx hb dX9_sweep_13 rfl (lv_at hl 2 rfl) ?_
        refine va_get (D := (dC, dI)) (ci := 11) (v := .int (st 1)) (C := RX9) (T := TX9) (N := 38) hx hb hts hin9 hown hK hP 0 rfl rfl 1 (by decide) (hts (.fieldLink RX9 62 "BlockLogModel" "pages" "I") (by decide +kernel)) (fun _ h9 => h9) rfl dX9_sweep_14 ?_
        refine lv_icmp_ge (tgt := 68) hx hb dX9_sweep_17 (by decide) (fun c_22 => ?_) (fun c_22 => ?_)
        · skip
          have ic_22 := iv_le c_22
          refine lv_aload_n hx hb dX9_sweep_68 rfl (lv_at hl 2 rfl) ?_
          refine va_get (D := (dC, dI)) (ci := 11) (v := .int s6_12) (C := RX9) (T := TX9) (N := 38) hx hb hts hin9 hown hK hP 0 rfl rfl 6 (by decide) (hts (.fieldLink RX9 108 "BlockLogModel" "dark" "Z") (by decide +kernel)) (fun _ h9 => h9) rfl dX9_sweep_69 ?_
          refine lv_if_eq (tgt := 80) hx hb dX9_sweep_72 (by decide) (fun c_23 => ?_) (fun c_23 => ?_)
          · skip
            have ic_23 := iv_eq c_23
            refine lv_iload_n hx hb dX9_sweep_80 rfl (lv_at hl 1 rfl) ?_
            exact W.iret hx hb hr (fun t ht hW => ⟨⟨_, _, rfl, rfl, s3_12, s4_12, s5_12, s6_12, s12_12, x16_1, x17_1, x21_1, x22_1, x24_1, x26_1, x30_19, y23_1, y27_1, a0_12, f19_1, f20_1, f25_1, g18_1, g28_19, g29_19, (by omega), (by omega), (by omega), (by omega), (by omega), (by omega), (by omega), (by omega), (by omega), (by omega), (by omega), (by omega), (by omega), (by omega), (by omega), (by omega), (by omega), (by omega), (by omega), (by omega), hR25, by rw [ht]; exact hP⟩, hS.F ht⟩) hS.2.2 dX9_sweep_81
          · skip
            have ic_23 := iv_ne c_23
            refine lv_bipush (v := (-4)) hx hb dX9_sweep_75 (by decide) ?_
            refine lv_goto (tgt := 81) hx hb dX9_sweep_77 (by decide) ?_
            exact W.iret hx hb hr (fun t ht hW => ⟨⟨_, _, rfl, rfl, s3_12, s4_12, s5_12, s6_12, s12_12, x16_1, x17_1, x21_1, x22_1, x24_1, x26_1, x30_19, y23_1, y27_1, a0_12, f19_1, f20_1, f25_1, g18_1, g28_19, g29_19, (by omega), (by omega), (by omega), (by omega), (by omega), (by omega), (by omega), (by omega), (by omega), (by omega), (by omega), (by omega), (by omega), (by omega), (by omega), (by omega), (by omega), (by omega), (by omega), (by omega), hR25, by rw [ht]; exact hP⟩, hS.F ht⟩) hS.2.2 dX9_sweep_81
        · skip
          have ic_22 := iv_nle c_22
          refine lv_aload_n hx hb dX9_sweep_20 rfl (lv_at hl 2 rfl) ?_
          refine va_get (D := (dC, dI)) (ci := 11) (v := .int s6_12) (C := RX9) (T := TX9) (N := 38) hx hb hts hin9 hown hK hP 0 rfl rfl 6 (by decide) (hts (.fieldLink RX9 108 "BlockLogModel" "dark" "Z") (by decide +kernel)) (fun _ h9 => h9) rfl dX9_sweep_21 ?_
          refine lv_if_ne (tgt := 68) hx hb dX9_sweep_24 (by decide) (fun c_24 => ?_) (fun c_24 => ?_)
          · skip
            have ic_24 := iv_ne c_24
            refine lv_aload_n hx hb dX9_sweep_68 rfl (lv_at hl 2 rfl) ?_
            refine va_get (D := (dC, dI)) (ci := 11) (v := .int s6_12) (C := RX9) (T := TX9) (N := 38) hx hb hts hin9 hown hK hP 0 rfl rfl 6 (by decide) (hts (.fieldLink RX9 108 "BlockLogModel" "dark" "Z") (by decide +kernel)) (fun _ h9 => h9) rfl dX9_sweep_69 ?_
            refine lv_if_eq (tgt := 80) hx hb dX9_sweep_72 (by decide) (fun c_25 => ?_) (fun c_25 => ?_)
            · skip
              have ic_25 := iv_eq c_25
              exfalso
              omega
            · skip
              have ic_25 := iv_ne c_25
              refine lv_bipush (v := (-4)) hx hb dX9_sweep_75 (by decide) ?_
              refine lv_goto (tgt := 81) hx hb dX9_sweep_77 (by decide) ?_
              exact W.iret hx hb hr (fun t ht hW => ⟨⟨_, _, rfl, rfl, s3_12, s4_12, s5_12, s6_12, s12_12, x16_1, x17_1, x21_1, x22_1, x24_1, x26_1, x30_19, y23_1, y27_1, a0_12, f19_1, f20_1, f25_1, g18_1, g28_19, g29_19, (by omega), (by omega), (by omega), (by omega), (by omega), (by omega), (by omega), (by omega), (by omega), (by omega), (by omega), (by omega), (by omega), (by omega), (by omega), (by omega), (by omega), (by omega), (by omega), (by omega), hR25, by rw [ht]; exact hP⟩, hS.F ht⟩) hS.2.2 dX9_sweep_81
          · skip
            have ic_24 := iv_eq c_24
            refine lv_aload_n hx hb dX9_sweep_27 rfl (lv_at hl 2 rfl) ?_
            refine lv_iload_n hx hb dX9_sweep_28 rfl (lv_at hl 0 rfl) ?_
            refine vp_callSi (va_Run.run (va_runV (As := [.int l2_12]) (rest := []) ⟨hx, hb, hml, hown, hts⟩ (v_X9_pageState l dC dI o c kc (rU (rU (rU (rU (rU (rU (rU (rU (rU (rU (rU (rU st 3 s3_12) 4 s4_12) 5 s5_12) 6 s6_12) 12 s12_12) 16 x16_1) 17 x17_1) 21 x21_1) 22 x22_1) 24 x24_1) 26 x26_1) 30 x30_19) (rU (rU lg 23 y23_1) 27 y27_1) (rU (rU (rU (rU ai 0 a0_12) 19 f19_1) 20 f20_1) 25 f25_1) (rU (rU (rU al 18 g18_1) 28 g28_19) 29 g29_19) l2_12 (by omega) (by omega)) (cwV 1 hts gX9_sweep_X9_pageState rfl rfl rfl (by decide +kernel) ⟨Nat.le_of_ble_eq_true rfl, Nat.le_of_ble_eq_true rfl⟩) ⟨fun a U g mk q => by obtain ⟨q0, qP, qK⟩ := q; exact ⟨q0, qP, va_K.moved (u := U) (U := U.calling g mk a) (Vm.Alike.refl U.vm) qK⟩, va_recv hK hP (ci := 11) (q := (RX9, TX9, 38)) rfl (q0 := 0) rfl, fun U hU hW => ⟨rfl, by rw [hU]; exact hP, va_K.moved hW.alike hK⟩⟩ rfl rfl hl.1 rfl (lv_room (Nat.le_of_ble_eq_true rfl)) dX9_sweep_29 ⟨Nat.le_of_ble_eq_true rfl, Nat.le_of_ble_eq_true rfl⟩)) (fun r_26 er_26 => ?_)
            obtain ⟨k_27, k_28, hrt⟩ := er_26
            have hrt : (r_26.toInt = 1 → rtQ a0_12 l2_12) ∧ (r_26.toInt ≠ 1 → ¬ rtQ a0_12 l2_12) := hrt
            refine lv_iconst (v := 1) hx hb dX9_sweep_32 (by decide) ?_
            refine lv_icmp_ne (tgt := 62) hx hb dX9_sweep_33 (by decide) (fun c_29 => ?_) (fun c_29 => ?_)
            · skip
              have ic_29 := iv_ne c_29
              obtain ⟨x_30, ex_30⟩ : ∃ z : Int32, z = l2_12 + (1) := ⟨_, rfl⟩
              refine lv_iinc (v := x_30) (lv' := [(2, .int x_30), (1, .int l1_12), (0, .ref o)]) hx hb dX9_sweep_62 hl (k := 0) rfl (by rw [ex_30]; rfl) (by decide) rfl (fun ls hl => ?_)
              have rg1 := iv_rng l2_12
              have hx_30 : x_30.toInt = l2_12.toInt + (1) := by rw [ex_30]; exact (iv_add (by omega) (by omega)).trans (by omega)
              clear ex_30
              refine lv_goto (tgt := 12) hx hb dX9_sweep_65 (by decide) ?_
              exact ih12 x_30 l1_12 s3_12 s4_12 s5_12 s6_12 s12_12 a0_12 _ _ _ (by omega) (by omega) (by omega) (by omega) (by omega) (by omega) (by omega) (by omega) (by omega) (by omega) (by omega) hP hS (lv_sub hl [0, 1, 2] rfl)
            · skip
              have ic_29 := iv_eq c_29
              refine lv_aload_n hx hb dX9_sweep_36 rfl (lv_at hl 2 rfl) ?_
              refine lv_aload_n hx hb dX9_sweep_37 rfl (lv_at hl 2 rfl) ?_
              refine lv_iload_n hx hb dX9_sweep_38 rfl (lv_at hl 0 rfl) ?_
              refine vp_callSl (va_Run.run (va_runV (As := [.int l2_12]) (rest := [.ref o]) ⟨hx, hb, hml, hown, hts⟩ (v_X9_leafDigest l dC dI o c kc (rU (rU (rU (rU (rU (rU (rU (rU (rU (rU (rU (rU st 3 s3_12) 4 s4_12) 5 s5_12) 6 s6_12) 12 s12_12) 16 x16_1) 17 x17_1) 21 x21_1) 22 x22_1) 24 x24_1) 26 x26_1) 30 x30_19) (rU (rU lg 23 y23_1) 27 y27_1) (rU (rU (rU (rU ai 0 a0_12) 19 f19_1) 20 f20_1) 25 f25_1) (rU (rU (rU al 18 g18_1) 28 g28_19) 29 g29_19) l2_12 (by omega) (by omega)) (cwV 1 hts gX9_sweep_X9_leafDigest rfl rfl rfl (by decide +kernel) ⟨Nat.le_of_ble_eq_true rfl, Nat.le_of_ble_eq_true rfl⟩) ⟨fun a U g mk q => by obtain ⟨q0, qP, qK⟩ := q; exact ⟨q0, qP, va_K.moved (u := U) (U := U.calling g mk a) (Vm.Alike.refl U.vm) qK⟩, va_recv hK hP (ci := 11) (q := (RX9, TX9, 38)) rfl (q0 := 0) rfl, fun U hU hW => ⟨rfl, by rw [hU]; exact hP, va_K.moved hW.alike hK⟩⟩ rfl rfl hl.1 rfl (lv_room (Nat.le_of_ble_eq_true rfl)) dX9_sweep_39 ⟨Nat.le_of_ble_eq_true rfl, Nat.le_of_ble_eq_true rfl⟩)) (fun r_31 er_31 => ?_)
              refine vp_callSi (va_Run.run (va_runV (As := [.long r_31]) (rest := []) ⟨hx, hb, hml, hown, hts⟩ (v_X9_isNamed l dC dI o c kc (rU (rU (rU (rU (rU (rU (rU (rU (rU (rU (rU (rU st 3 s3_12) 4 s4_12) 5 s5_12) 6 s6_12) 12 s12_12) 16 x16_1) 17 x17_1) 21 x21_1) 22 x22_1) 24 x24_1) 26 x26_1) 30 x30_19) (rU (rU lg 23 y23_1) 27 y27_1) (rU (rU (rU (rU ai 0 a0_12) 19 f19_1) 20 f20_1) 25 f25_1) (rU (rU (rU al 18 g18_1) 28 g28_19) 29 g29_19) r_31 (show 0 ≤ x30_19.toInt by omega) (show x30_19.toInt ≤ 128 by omega)) (cwV 1 hts gX9_sweep_X9_isNamed rfl rfl rfl (by decide +kernel) ⟨Nat.le_of_ble_eq_true rfl, Nat.le_of_ble_eq_true rfl⟩) ⟨fun a U g mk q => by obtain ⟨q0, qP, qK⟩ := q; exact ⟨q0, qP, va_K.moved (u := U) (U := U.calling g mk a) (Vm.Alike.refl U.vm) qK⟩, va_recv hK hP (ci := 11) (q := (RX9, TX9, 38)) rfl (q0 := 0) rfl, fun U hU hW => ⟨rfl, by rw [hU]; exact hP, va_K.moved hW.alike hK⟩⟩ rfl rfl hl.1 rfl (lv_room (Nat.le_of_ble_eq_true rfl)) dX9_sweep_42 ⟨Nat.le_of_ble_eq_true rfl, Nat.le_of_ble_eq_true rfl⟩)) (fun r_32 er_32 => ?_)
              obtain ⟨k_33, k_34⟩ := er_32
              rcases iv_01 (a := r_32) (by omega) (by omega) with b_35 | b_35
              · skip
                have ib_35 := iv_eq b_35
                rw [b_35]
                refine lv_if_ne (tgt := 62) hx hb dX9_sweep_45 (by decide) (fun c_36 => ?_) (fun c_36 => ?_)
                · skip
                  have ic_36 := iv_ne c_36
                  exfalso
                  omega
                · skip
                  have ic_36 := iv_eq c_36
                  refine lv_aload_n hx hb dX9_sweep_48 rfl (lv_at hl 2 rfl) ?_
                  refine lv_aload_n hx hb dX9_sweep_49 rfl (lv_at hl 2 rfl) ?_
                  refine lv_iload_n hx hb dX9_sweep_50 rfl (lv_at hl 0 rfl) ?_
                  refine vp_callSi (va_Run.run (va_runV (As := [.int l2_12]) (rest := [.ref o]) ⟨hx, hb, hml, hown, hts⟩ (v_X9_pagePlace l dC dI o c kc (rU (rU (rU (rU (rU (rU (rU (rU (rU (rU (rU (rU st 3 s3_12) 4 s4_12) 5 s5_12) 6 s6_12) 12 s12_12) 16 x16_1) 17 x17_1) 21 x21_1) 22 x22_1) 24 x24_1) 26 x26_1) 30 x30_19) (rU (rU lg 23 y23_1) 27 y27_1) (rU (rU (rU (rU ai 0 a0_12) 19 f19_1) 20 f20_1) 25 f25_1) (rU (rU (rU al 18 g18_1) 28 g28_19) 29 g29_19) l2_12 (by omega) (by omega)) (cwV 1 hts gX9_sweep_X9_pagePlace rfl rfl rfl (by decide +kernel) ⟨Nat.le_of_ble_eq_true rfl, Nat.le_of_ble_eq_true rfl⟩) ⟨fun a U g mk q => by obtain ⟨q0, qP, qK⟩ := q; exact ⟨q0, qP, va_K.moved (u := U) (U := U.calling g mk a) (Vm.Alike.refl U.vm) qK⟩, va_recv hK hP (ci := 11) (q := (RX9, TX9, 38)) rfl (q0 := 0) rfl, fun U hU hW => ⟨rfl, by rw [hU]; exact hP, va_K.moved hW.alike hK⟩⟩ rfl rfl hl.1 rfl (lv_room (Nat.le_of_ble_eq_true rfl)) dX9_sweep_51 ⟨Nat.le_of_ble_eq_true rfl, Nat.le_of_ble_eq_true rfl⟩)) (fun r_37 er_37 => ?_)
                  have k_38 := er_37
                  refine lv_bipush (v := 26) hx hb dX9_sweep_54 (by decide) ?_
                  have hFc := vfree (rw_D hD : va_D A (rw_W o c kc (rU (rU (rU (rU (rU (rU (rU (rU (rU (rU (rU (rU st 3 s3_12) 4 s4_12) 5 s5_12) 6 s6_12) 12 s12_12) 16 x16_1) 17 x17_1) 21 x21_1) 22 x22_1) 24 x24_1) 26 x26_1) 30 x30_19) (rU (rU lg 23 y23_1) 27 y27_1) (rU (rU (rU (rU ai 0 a0_12) 19 f19_1) 20 f20_1) 25 f25_1) (rU (rU (rU al 18 g18_1) 28 g28_19) 29 g29_19))) hS hA
                  refine va_callv (va_runV (As := [.int r_37, .int (26 : Int32)]) (rest := []) ⟨hx, hb, hml, hown, hts⟩ (v_X9_erase l dC dI o c kc (rU (rU (rU (rU (rU (rU (rU (rU (rU (rU (rU (rU st 3 s3_12) 4 s4_12) 5 s5_12) 6 s6_12) 12 s12_12) 16 x16_1) 17 x17_1) 21 x21_1) 22 x22_1) 24 x24_1) 26 x26_1) 30 x30_19) (rU (rU lg 23 y23_1) 27 y27_1) (rU (rU (rU (rU ai 0 a0_12) 19 f19_1) 20 f20_1) 25 f25_1) (rU (rU (rU al 18 g18_1) 28 g28_19) 29 g29_19) r_37 (26 : Int32) _ (show 0 ≤ s3_12.toInt by omega) (show s3_12.toInt ≤ 1 by omega) (show 0 ≤ s6_12.toInt by omega) (show s6_12.toInt ≤ 1 by omega) (show 0 ≤ s12_12.toInt by omega) (show s12_12.toInt ≤ 8 by omega) (by omega) (by omega) (by omega) (by omega)) (cwV 2 hts gX9_sweep_X9_erase rfl rfl rfl (by decide +kernel) ⟨Nat.le_of_ble_eq_true rfl, Nat.le_of_ble_eq_true rfl⟩) ⟨fun a U g mk q => by obtain ⟨q0, q1, qP, qK, qD⟩ := q; exact ⟨q0, q1, qP, va_K.moved (u := U) (U := U.calling g mk a) (Vm.Alike.refl U.vm) qK, qD⟩, va_recv hK hP (ci := 11) (q := (RX9, TX9, 38)) rfl (q0 := 0) rfl, fun U hU hW => ⟨rfl, by rw [hU], by rw [hU]; exact hP, va_K.moved hW.alike hK, rw_D (hD.weaken (fun _ _ _ _ => trivial))⟩⟩ rfl rfl hl.1 rfl (lv_room (Nat.le_of_ble_eq_true rfl)) dX9_sweep_56 ⟨Nat.le_of_ble_eq_true rfl, Nat.le_of_ble_eq_true rfl⟩) hS (fun q _ h => hFc q h) hFc (fun ur_39 t H1 locs ht hvm er_39 hB hz1 hk1 hS => ?_)
                  obtain ⟨x3_39, x4_39, x5_39, x6_39, x12_39, f0_39, k_40, k_41, k_42, k_43, k_44, k_45, hP1⟩ := hB
                  rw [ht] at hP1
                  clear hFc hz1 hk1 hvm hP
                  subst ht
                  have hP := hP1
                  clear hP1
                  generalize t.heap = H at hP hS ⊢
                  have hP : va_P (dC, dI) vwCl (rw_W o c kc (rU (rU (rU (rU (rU (rU (rU (rU (rU (rU (rU (rU st 3 x3_39) 4 x4_39) 5 x5_39) 6 x6_39) 12 x12_39) 16 x16_1) 17 x17_1) 21 x21_1) 22 x22_1) 24 x24_1) 26 x26_1) 30 x30_19) (rU (rU lg 23 y23_1) 27 y27_1) (rU (rU (rU (rU ai 0 f0_39) 19 f19_1) 20 f20_1) 25 f25_1) (rU (rU (rU al 18 g18_1) 28 g28_19) 29 g29_19)) H := hP
                  have k_40 : 0 ≤ x3_39.toInt := k_40
                  have k_41 : x3_39.toInt ≤ 1 := k_41
                  have k_42 : 0 ≤ x6_39.toInt := k_42
                  have k_43 : x6_39.toInt ≤ 1 := k_43
                  have k_44 : 0 ≤ x12_39.toInt := k_44
                  have k_45 : x12_39.toInt ≤ 8 := k_45
                  obtain ⟨x_46, ex_46⟩ : ∃ z : Int32, z = l1_12 + (1) := ⟨_, rfl⟩
                  refine lv_iinc (v := x_46) (lv' := [(1, .int x_46), (2, .int l2_12), (0, .ref o)]) hx hb dX9_sweep_59 hl (k := 1) rfl (by rw [ex_46]; rfl) (by decide) rfl (fun ls hl => ?_)
                  have rg2 := iv_rng l1_12
                  have hx_46 : x_46.toInt = l1_12.toInt + (1) := by rw [ex_46]; exact (iv_add (by omega) (by omega)).trans (by omega)
                  clear ex_46
                  obtain ⟨x_47, ex_47⟩ : ∃ z : Int32, z = l2_12 + (1) := ⟨_, rfl⟩
                  refine lv_iinc (v := x_47) (lv' := [(2, .int x_47), (1, .int x_46), (0, .ref o)]) hx hb dX9_sweep_62 hl (k := 1) rfl (by rw [ex_47]; rfl) (by decide) rfl (fun ls hl => ?_)
                  have rg3 := iv_rng l2_12
                  have hx_47 : x_47.toInt = l2_12.toInt + (1) := by rw [ex_47]; exact (iv_add (by omega) (by omega)).trans (by omega)
                  clear ex_47
                  refine lv_goto (tgt := 12) hx hb dX9_sweep_65 (by decide) ?_
                  exact ih12 x_47 x_46 x3_39 x4_39 x5_39 x6_39 x12_39 f0_39 _ _ _ (by omega) (by omega) (by omega) (by omega) (by omega) (by omega) (by omega) (by omega) (by omega) (by omega) (by omega) hP hS (lv_sub hl [0, 1, 2] rfl)
              · skip
                have ib_35 := iv_eq b_35
                rw [b_35]
                refine lv_if_ne (tgt := 62) hx hb dX9_sweep_45 (by decide) (fun c_48 => ?_) (fun c_48 => ?_)
                · skip
                  have ic_48 := iv_ne c_48
                  obtain ⟨x_49, ex_49⟩ : ∃ z : Int32, z = l2_12 + (1) := ⟨_, rfl⟩
                  refine lv_iinc (v := x_49) (lv' := [(2, .int x_49), (1, .int l1_12), (0, .ref o)]) hx hb dX9_sweep_62 hl (k := 0) rfl (by rw [ex_49]; rfl) (by decide) rfl (fun ls hl => ?_)
                  have rg4 := iv_rng l2_12
                  have hx_49 : x_49.toInt = l2_12.toInt + (1) := by rw [ex_49]; exact (iv_add (by omega) (by omega)).trans (by omega)
                  clear ex_49
                  refine lv_goto (tgt := 12) hx hb dX9_sweep_65 (by decide) ?_
                  exact ih12 x_49 l1_12 s3_12 s4_12 s5_12 s6_12 s12_12 a0_12 _ _ _ (by omega) (by omega) (by omega) (by omega) (by omega) (by omega) (by omega) (by omega) (by omega) (by omega) (by omega) hP hS (lv_sub hl [0, 1, 2] rfl)
                · skip
                  have ic_48 := iv_eq c_48
                  exfalso
                  omega
    exact loop12 (((st 1).toInt - 0 : Int).toNat + 1) (0 : Int32) (0 : Int32) (st 3) (st 4) (st 5) (st 6) (st 12) (ai 0) _ _ _ (by omega) (by omega) (by omega) (by omega) (by omega) (by omega) (by omega) (by omega) (by omega) (by omega) (by omega) hP hS (lv_sub hl [0, 1, 2] rfl)
  exact main s.heap [] hP hS
