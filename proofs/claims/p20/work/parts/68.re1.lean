set_option maxHeartbeats 4000000 in
set_option maxRecDepth 100000 in
theorem v_X9_vote (l : Launch) (dC : Nat → ClassId) (dI : Nat → Nat → Nat) (o : Nat) (c : Nat → Nat) (kc : Nat → ClassId) (st : Nat → Int32) (lg : Nat → Int64) (ai : Nat → Nat → Int32) (al : Nat → Nat → Int64) (p0 : Int32) (p1 : Int32) (p2 : Int64) (sz : Nat) (hf3a : 0 ≤ (st 3).toInt) (hf3b : (st 3).toInt ≤ 1) (hf6a : 0 ≤ (st 6).toInt) (hf6b : (st 6).toInt ≤ 1) (hf7a : 0 ≤ (st 7).toInt) (hf7b : (st 7).toInt ≤ 1) (hf12a : 0 ≤ (st 12).toInt) (hf12b : (st 12).toInt ≤ 8) (hf15a : 0 ≤ (st 15).toInt) (hf15b : (st 15).toInt ≤ 128) (hf16a : 0 ≤ (st 16).toInt) (hf16b : (st 16).toInt ≤ 128) (hf17a : 0 ≤ (st 17).toInt) (hf17b : (st 17).toInt ≤ 1) (hf21a : -1 ≤ (st 21).toInt) (hf21b : (st 21).toInt ≤ 127) (hf22a : 0 ≤ (st 22).toInt) (hf22b : (st 22).toInt ≤ 1000000) (hf24a : 0 ≤ (st 24).toInt) (hf24b : (st 24).toInt ≤ 1) (hf26a : 0 ≤ (st 26).toInt) (hf26b : (st 26).toInt ≤ 2000000) (hR25 : aR (ai 25) 130 (0) 127) : Met l yX9_vote wsX9_vote ({ frames := 7, cells := 0, slots := 0, locals := 159 }) (va_Pc [.ref o, .int p0, .int p1, .long p2] (fun U => U.heap.size = sz ∧ va_P (dC, dI) vwCl (rw_W o c kc st lg ai al) U.heap ∧ va_K (dC, dI) vwCl (rw_T kc) U ∧ va_D (fun _ => True) (rw_W o c kc st lg ai al))) (va_Qi (fun r (u : Int32) => r = u) (fun u t => ∃ (x3 : Int32) (x4 : Int32) (x5 : Int32) (x6 : Int32) (x12 : Int32) (x13 : Int32) (x15 : Int32) (x16 : Int32) (x17 : Int32) (x21 : Int32) (x22 : Int32) (x24 : Int32) (x26 : Int32) (y23 : Int64) (y27 : Int64) (f0 : Nat → Int32) (f14 : Nat → Int32) (f19 : Nat → Int32) (f20 : Nat → Int32) (f25 : Nat → Int32) (g18 : Nat → Int64), (0 ≤ x3.toInt) ∧ (x3.toInt ≤ 1) ∧ (0 ≤ x6.toInt) ∧ (x6.toInt ≤ 1) ∧ (0 ≤ x12.toInt) ∧ (x12.toInt ≤ 8) ∧ (0 ≤ x15.toInt) ∧ (x15.toInt ≤ 128) ∧ (0 ≤ x16.toInt) ∧ (x16.toInt ≤ 128) ∧ (0 ≤ x17.toInt) ∧ (x17.toInt ≤ 1) ∧ (-1 ≤ x21.toInt) ∧ (x21.toInt ≤ 127) ∧ (0 ≤ x22.toInt) ∧ (x22.toInt ≤ 1000000) ∧ (0 ≤ x24.toInt) ∧ (x24.toInt ≤ 1) ∧ (0 ≤ x26.toInt) ∧ (x26.toInt ≤ 2000000) ∧ (aR f25 130 (0) 127) ∧ va_P (dC, dI) vwCl (rw_W o c kc (rU (rU (rU (rU (rU (rU (rU (rU (rU (rU (rU (rU (rU st 3 x3) 4 x4) 5 x5) 6 x6) 12 x12) 13 x13) 15 x15) 16 x16) 17 x17) 21 x21) 22 x22) 24 x24) 26 x26) (rU (rU lg 23 y23) 27 y27) (rU (rU (rU (rU (rU ai 0 f0) 14 f14) 19 f19) 20 f20) 25 f25) (rU al 18 g18)) t.heap) (va_A (rw_W o c kc st lg ai al) sz)) 0 0 (va_A (rw_W o c kc st lg ai al) sz) := by
  refine Met.ofW (cc := cX9_vote) (maxL := 10) (ret := (some .int)) (by decide) rfl ?_
  intro p e s m args below meth cM s₁ B hml hv
  obtain ⟨rfl, hsz, hP, hK, hD0⟩ := hv
  have hx := B.exec
  have hb := B.bytes
  have hr := B.returns
  have hts := atoms_spec (ws := wsX9_vote) B.pre
  have hown : s.vm.findClass RX9 = some m.cls := findClass_of_methodNamed B.named
  subst hsz
  have hD := hD0.self (sz := s.heap.size)
  generalize hAe : va_A (rw_W o c kc st lg ai al) s.heap.size = A at hD ⊢
  have hA : ∀ q : Nat, s.heap.size ≤ q → A q := fun q h => by rw [← hAe]; exact Or.inr h
  have hS : va_S A s.heap s.heap [] := va_S.rf
  clear hAe hD0
  have hl := lv_entry ([.ref o, .int p0, .int p1, .long p2]) (n := 10) (Nat.le_of_ble_eq_true rfl)
  rw [lg_entry_eq]
  generalize (lg_sl ([.ref o, .int p0, .int p1, .long p2]) ++ List.replicate (10 - (lg_sl ([.ref o, .int p0, .int p1, .long p2])).length) Slot.unset).toArray = ls at hl ⊢
  have hl : lv_has ls 10 [(0, .ref o), (1, .int p0), (2, .int p1), (3, .long p2)] := hl
  have z_m7 : (-7 : Int32).toInt = -7 := by decide
  have z_m6 : (-6 : Int32).toInt = -6 := by decide
  have z_m4 : (-4 : Int32).toInt = -4 := by decide
  have z_m3 : (-3 : Int32).toInt = -3 := by decide
  have z_m2 : (-2 : Int32).toInt = -2 := by decide
  have z_m1 : (-1 : Int32).toInt = -1 := by decide
  have z_0 : (0 : Int32).toInt = 0 := by decide
  have z_1 : (1 : Int32).toInt = 1 := by decide
  have z_2 : (2 : Int32).toInt = 2 := by decide
  have z_32 : (32 : Int32).toInt = 32 := by decide
  have z_128 : (128 : Int32).toInt = 128 := by decide
  have z_1000000 : (1000000 : Int32).toInt = 1000000 := by decide
  have hin9 : ∀ w ∈ u_ws RX9 TX9 38, w ∈ wsX9_vote := by decide +kernel
  have main : ∀ (H : Heap) (locs : List Loc), va_P (dC, dI) vwCl (rw_W o c kc st lg ai al) H → va_S A s.heap H locs → W p l e (headSpec wsX9_vote ({ frames := 7, cells := 0, slots := 0, locals := 159 })).room s m ([.ref o, .int p0, .int p1, .long p2] : List Value).toArray below meth cM H locs 0 0 (MQ below (va_Qi (fun r (u : Int32) => r = u) (fun u t => ∃ (x3 : Int32) (x4 : Int32) (x5 : Int32) (x6 : Int32) (x12 : Int32) (x13 : Int32) (x15 : Int32) (x16 : Int32) (x17 : Int32) (x21 : Int32) (x22 : Int32) (x24 : Int32) (x26 : Int32) (y23 : Int64) (y27 : Int64) (f0 : Nat → Int32) (f14 : Nat → Int32) (f19 : Nat → Int32) (f20 : Nat → Int32) (f25 : Nat → Int32) (g18 : Nat → Int64), (0 ≤ x3.toInt) ∧ (x3.toInt ≤ 1) ∧ (0 ≤ x6.toInt) ∧ (x6.toInt ≤ 1) ∧ (0 ≤ x12.toInt) ∧ (x12.toInt ≤ 8) ∧ (0 ≤ x15.toInt) ∧ (x15.toInt ≤ 128) ∧ (0 ≤ x16.toInt) ∧ (x16.toInt ≤ 128) ∧ (0 ≤ x17.toInt) ∧ (x17.toInt ≤ 1) ∧ (-1 ≤ x21.toInt) ∧ (x21.toInt ≤ 127) ∧ (0 ≤ x22.toInt) ∧ (x22.toInt ≤ 1000000) ∧ (0 ≤ x24.toInt) ∧ (x24.toInt ≤ 1) ∧ (0 ≤ x26.toInt) ∧ (x26.toInt ≤ 2000000) ∧ (aR f25 130 (0) 127) ∧ va_P (dC, dI) vwCl (rw_W o c kc (rU (rU (rU (rU (rU (rU (rU (rU (rU (rU (rU (rU (rU st 3 x3) 4 x4) 5 x5) 6 x6) 12 x12) 13 x13) 15 x15) 16 x16) 17 x17) 21 x21) 22 x22) 24 x24) 26 x26) (rU (rU lg 23 y23) 27 y27) (rU (rU (rU (rU (rU ai 0 f0) 14 f14) 19 f19) 20 f20) 25 f25) (rU al 18 g18)) t.heap) A) ([.ref o, .int p0, .int p1, .long p2] : List Value).toArray s 0 0 A) (F0 m 0 ls []) := by
    intro H locs hP hS
    refine lv_aload_n hx hb dX9_vote_0 rfl (lv_at hl 0 rfl) ?_
    have join1 : ∀ (jt_1 : Int32) (H : Heap) (locs : List Loc) (ls : Array Slot), (0 ≤ jt_1.toInt) → (jt_1.toInt ≤ 2) → va_P (dC, dI) vwCl (rw_W o c kc st lg ai al) H → va_S A s.heap H locs → lv_has ls 10 [(0, .ref o), (1, .int p0), (2, .int p1), (3, .long p2)] → W p l e (headSpec wsX9_vote ({ frames := 7, cells := 0, slots := 0, locals := 159 })).room s m ([.ref o, .int p0, .int p1, .long p2] : List Value).toArray below meth cM H locs 0 0 (MQ below (va_Qi (fun r (u : Int32) => r = u) (fun u t => ∃ (x3 : Int32) (x4 : Int32) (x5 : Int32) (x6 : Int32) (x12 : Int32) (x13 : Int32) (x15 : Int32) (x16 : Int32) (x17 : Int32) (x21 : Int32) (x22 : Int32) (x24 : Int32) (x26 : Int32) (y23 : Int64) (y27 : Int64) (f0 : Nat → Int32) (f14 : Nat → Int32) (f19 : Nat → Int32) (f20 : Nat → Int32) (f25 : Nat → Int32) (g18 : Nat → Int64), (0 ≤ x3.toInt) ∧ (x3.toInt ≤ 1) ∧ (0 ≤ x6.toInt) ∧ (x6.toInt ≤ 1) ∧ (0 ≤ x12.toInt) ∧ (x12.toInt ≤ 8) ∧ (0 ≤ x15.toInt) ∧ (x15.toInt ≤ 128) ∧ (0 ≤ x16.toInt) ∧ (x16.toInt ≤ 128) ∧ (0 ≤ x17.toInt) ∧ (x17.toInt ≤ 1) ∧ (-1 ≤ x21.toInt) ∧ (x21.toInt ≤ 127) ∧ (0 ≤ x22.toInt) ∧ (x22.toInt ≤ 1000000) ∧ (0 ≤ x24.toInt) ∧ (x24.toInt ≤ 1) ∧ (0 ≤ x26.toInt) ∧ (x26.toInt ≤ 2000000) ∧ (aR f25 130 (0) 127) ∧ va_P (dC, dI) vwCl (rw_W o c kc (rU (rU (rU (rU (rU (rU (rU (rU (rU (rU (rU (rU (rU st 3 x3) 4 x4) 5 x5) 6 x6) 12 x12) 13 x13) 15 x15) 16 x16) 17 x17) 21 x21) 22 x22) 24 x24) 26 x26) (rU (rU lg 23 y23) 27 y27) (rU (rU (rU (rU (rU ai 0 f0) 14 f14) 19 f19) 20 f20) 25 f25) (rU al 18 g18)) t.heap) A) ([.ref o, .int p0, .int p1, .long p2] : List Value).toArray s 0 0 A) (F0 m 37 ls [.int jt_1, .ref o]) := by
      intro jt_1 H locs ls ij0_1 ij1_1 hP hS hl
      refine va_put (D := (dC, dI)) (ci := 11) (v := .int jt_1) (ty := .int) (C := RX9) (T := TX9) (N := 38) hx hb hts hin9 tyX9 tyX9_ok nmX9 hown hK hP (rw_D hD) hS 0 rfl rfl 13 (by decide) (hts (.fieldLink RX9 91 "BlockLogModel" "thrown" "I") (by decide +kernel)) (fun _ h9 => h9) rfl (by decide +kernel) rfl rfl (Nat.le_of_ble_eq_true rfl) dX9_vote_37 (fun H locs hP _ hS => ?_)
      have hP : va_P (dC, dI) vwCl (rw_W o c kc (rU st 13 jt_1) lg ai al) H := hP
      refine lv_aload_n hx hb dX9_vote_40 rfl (lv_at hl 0 rfl) ?_
      refine va_get (D := (dC, dI)) (ci := 11) (v := .int jt_1) (C := RX9) (T := TX9) (N := 38) hx hb hts hin9 hown hK hP 0 rfl rfl 13 (by decide) (hts (.fieldLink RX9 91 "BlockLogModel" "thrown" "I") (by decide +kernel)) (fun _ h9 => h9) rfl dX9_vote_41 ?_
      refine lv_if_le (tgt := 49) hx hb dX9_vote_44 (by decide) (fun c_1 => ?_) (fun c_1 => ?_)
      · skip
        have ic_1 := iv_le c_1
        refine lv_aload_n hx hb dX9_vote_49 rfl (lv_at hl 0 rfl) ?_
        have hFc := vfree (rw_D hD : va_D A (rw_W o c kc (rU st 13 jt_1) lg ai al)) hS hA
        refine va_callv (va_runV (As := []) (rest := []) ⟨hx, hb, hml, hown, hts⟩ (v_X9_read l dC dI o c kc (rU st 13 jt_1) lg ai al  _ (show 0 ≤ (st 7).toInt by omega) (show (st 7).toInt ≤ 1 by omega) (show 0 ≤ (st 15).toInt by omega) (show (st 15).toInt ≤ 128 by omega) (show 0 ≤ (st 16).toInt by omega) (show (st 16).toInt ≤ 128 by omega) (show 0 ≤ (st 17).toInt by omega) (show (st 17).toInt ≤ 1 by omega) (show -1 ≤ (st 21).toInt by omega) (show (st 21).toInt ≤ 127 by omega) (show 0 ≤ (st 22).toInt by omega) (show (st 22).toInt ≤ 1000000 by omega) (show 0 ≤ (st 24).toInt by omega) (show (st 24).toInt ≤ 1 by omega) (show 0 ≤ (st 26).toInt by omega) (show (st 26).toInt ≤ 2000000 by omega) (show aR (ai 25) 130 (0) 127 from hR25)) (cwV 0 hts gX9_vote_X9_read rfl rfl rfl (by decide +kernel) ⟨Nat.le_of_ble_eq_true rfl, Nat.le_of_ble_eq_true rfl⟩) ⟨fun a U g mk q => by obtain ⟨q0, q1, qP, qK, qD⟩ := q; exact ⟨q0, q1, qP, va_K.moved (u := U) (U := U.calling g mk a) (Vm.Alike.refl U.vm) qK, qD⟩, va_recv hK hP (ci := 11) (q := (RX9, TX9, 38)) rfl (q0 := 0) rfl, fun U hU hW => ⟨rfl, by rw [hU], by rw [hU]; exact hP, va_K.moved hW.alike hK, rw_D (hD.weaken (fun _ _ _ _ => trivial))⟩⟩ rfl rfl hl.1 rfl (lv_room (Nat.le_of_ble_eq_true rfl)) dX9_vote_50 ⟨Nat.le_of_ble_eq_true rfl, Nat.le_of_ble_eq_true rfl⟩) hS (fun q _ h => hFc q h) hFc (fun ur_2 t H1 locs ht hvm er_2 hB hz1 hk1 hS => ?_)
        obtain ⟨x16_2, x17_2, x21_2, x22_2, x24_2, x26_2, y23_2, y27_2, f19_2, f20_2, f25_2, g18_2, k_3, k_4, k_5, k_6, k_7, k_8, k_9, k_10, k_11, k_12, k_13, k_14, k_15, k_16, k_17, k_18, k_19, hR25, hG, hC, hV, hBs, hP1⟩ := hB
        rw [ht] at hP1
        clear hFc hz1 hk1 hvm hP
        subst ht
        have hP := hP1
        clear hP1
        generalize t.heap = H at hP hS ⊢
        have hP : va_P (dC, dI) vwCl (rw_W o c kc (rU (rU (rU (rU (rU (rU (rU st 13 jt_1) 16 x16_2) 17 x17_2) 21 x21_2) 22 x22_2) 24 x24_2) 26 x26_2) (rU (rU lg 23 y23_2) 27 y27_2) (rU (rU (rU ai 19 f19_2) 20 f20_2) 25 f25_2) (rU al 18 g18_2)) H := hP
        have k_3 : x16_2.toInt = (st 15).toInt := k_3
        have k_4 : 0 ≤ x26_2.toInt - x22_2.toInt := k_4
        have k_5 : x26_2.toInt - x22_2.toInt ≤ 128 := k_5
        have k_6 : (x21_2.toInt = -1 ∨ (rK (ai 0) (st 7) x21_2).toInt = 1) := k_6
        have k_7 : x21_2.toInt < x16_2.toInt := k_7
        have k_8 : 0 ≤ x16_2.toInt := k_8
        have k_9 : x16_2.toInt ≤ 128 := k_9
        have k_10 : 0 ≤ x17_2.toInt := k_10
        have k_11 : x17_2.toInt ≤ 1 := k_11
        have k_12 : -1 ≤ x21_2.toInt := k_12
        have k_13 : x21_2.toInt ≤ 127 := k_13
        have k_14 : 0 ≤ x22_2.toInt := k_14
        have k_15 : x22_2.toInt ≤ 1000000 := k_15
        have k_16 : 0 ≤ x24_2.toInt := k_16
        have k_17 : x24_2.toInt ≤ 1 := k_17
        have k_18 : 0 ≤ x26_2.toInt := k_18
        have k_19 : x26_2.toInt ≤ 2000000 := k_19
        have hR25 : aR f25_2 130 (0) 127 := hR25
        have hG : gOK (ai 0) (st 7) x16_2 f19_2 := hG
        have hC : cOK (ai 0) (st 7) x16_2 f20_2 := hC
        have hV : vOK (ai 0) (st 7) x16_2 f25_2 (x26_2.toInt - x22_2.toInt) := hV
        have hBs : bOK (ai 0) (st 7) x16_2 x24_2 := hBs
        refine lv_aload_n hx hb dX9_vote_53 rfl (lv_at hl 0 rfl) ?_
        refine va_get (D := (dC, dI)) (ci := 11) (v := .int x17_2) (C := RX9) (T := TX9) (N := 38) hx hb hts hin9 hown hK hP 0 rfl rfl 17 (by decide) (hts (.fieldLink RX9 176 "BlockLogModel" "needs" "Z") (by decide +kernel)) (fun _ h9 => h9) rfl dX9_vote_54 ?_
        refine lv_if_eq (tgt := 63) hx hb dX9_vote_57 (by decide) (fun c_20 => ?_) (fun c_20 => ?_)
        · skip
          have ic_20 := iv_eq c_20
          refine lv_aload_n hx hb dX9_vote_63 rfl (lv_at hl 0 rfl) ?_
          refine lv_lload_n hx hb dX9_vote_64 rfl (lv_at hl 3 rfl) ?_
          refine vp_callSl (va_Run.run (va_runV (As := [.long p2]) (rest := []) ⟨hx, hb, hml, hown, hts⟩ (v_X9_meant l dC dI o c kc (rU (rU (rU (rU (rU (rU (rU st 13 jt_1) 16 x16_2) 17 x17_2) 21 x21_2) 22 x22_2) 24 x24_2) 26 x26_2) (rU (rU lg 23 y23_2) 27 y27_2) (rU (rU (rU ai 19 f19_2) 20 f20_2) 25 f25_2) (rU al 18 g18_2) p2 (show 0 ≤ x16_2.toInt by omega) (show x16_2.toInt ≤ 128 by omega)) (cwV 1 hts gX9_vote_X9_meant rfl rfl rfl (by decide +kernel) ⟨Nat.le_of_ble_eq_true rfl, Nat.le_of_ble_eq_true rfl⟩) ⟨fun a U g mk q => by obtain ⟨q0, qP, qK⟩ := q; exact ⟨q0, qP, va_K.moved (u := U) (U := U.calling g mk a) (Vm.Alike.refl U.vm) qK⟩, va_recv hK hP (ci := 11) (q := (RX9, TX9, 38)) rfl (q0 := 0) rfl, fun U hU hW => ⟨rfl, by rw [hU]; exact hP, va_K.moved hW.alike hK⟩⟩ rfl rfl hl.1 rfl (lv_room (Nat.le_of_ble_eq_true rfl)) dX9_vote_65 ⟨Nat.le_of_ble_eq_true rfl, Nat.le_of_ble_eq_true rfl⟩)) (fun r_21 er_21 => ?_)
          refine lv_lstore (lv' := [(5, .long r_21), (0, .ref o), (1, .int p0), (2, .int p1), (3, .long p2)]) hx hb dX9_vote_68 hl (by decide) rfl (fun ls hl => ?_)
          refine lv_aload_n hx hb dX9_vote_70 rfl (lv_at hl 1 rfl) ?_
          refine lv_lload hx hb dX9_vote_71 (lv_at hl 0 rfl) ?_
          refine lv_aload_n hx hb dX9_vote_73 rfl (lv_at hl 1 rfl) ?_
          refine va_get (D := (dC, dI)) (ci := 11) (v := .int x16_2) (C := RX9) (T := TX9) (N := 38) hx hb hts hin9 hown hK hP 0 rfl rfl 16 (by decide) (hts (.fieldLink RX9 167 "BlockLogModel" "many" "I") (by decide +kernel)) (fun _ h9 => h9) rfl dX9_vote_74 ?_
          refine vp_callSi (va_Run.run (va_runV (As := [.long r_21, .int x16_2]) (rest := []) ⟨hx, hb, hml, hown, hts⟩ (v_X9_blockRow l dC dI o c kc (rU (rU (rU (rU (rU (rU (rU st 13 jt_1) 16 x16_2) 17 x17_2) 21 x21_2) 22 x22_2) 24 x24_2) 26 x26_2) (rU (rU lg 23 y23_2) 27 y27_2) (rU (rU (rU ai 19 f19_2) 20 f20_2) 25 f25_2) (rU al 18 g18_2) r_21 x16_2 (show 0 ≤ (st 7).toInt by omega) (show (st 7).toInt ≤ 1 by omega) (by omega) (by omega) (show cOK (ai 0) (st 7) x16_2 f20_2 from (by assumption))) (cwV 2 hts gX9_vote_X9_blockRow rfl rfl rfl (by decide +kernel) ⟨Nat.le_of_ble_eq_true rfl, Nat.le_of_ble_eq_true rfl⟩) ⟨fun a U g mk q => by obtain ⟨q0, qP, qK⟩ := q; exact ⟨q0, qP, va_K.moved (u := U) (U := U.calling g mk a) (Vm.Alike.refl U.vm) qK⟩, va_recv hK hP (ci := 11) (q := (RX9, TX9, 38)) rfl (q0 := 0) rfl, fun U hU hW => ⟨rfl, by rw [hU]; exact hP, va_K.moved hW.alike hK⟩⟩ rfl rfl hl.1 rfl (lv_room (Nat.le_of_ble_eq_true rfl)) dX9_vote_77 ⟨Nat.le_of_ble_eq_true rfl, Nat.le_of_ble_eq_true rfl⟩)) (fun r_22 er_22 => ?_)
          obtain ⟨k_23, k_24, hbk⟩ := er_22
          have hbk : r_22.toInt ≠ -1 → okB (ai 0) (st 7) x16_2 r_22 := hbk
          refine lv_istore (lv' := [(7, .int r_22), (5, .long r_21), (0, .ref o), (1, .int p0), (2, .int p1), (3, .long p2)]) hx hb dX9_vote_80 hl (by decide) rfl (fun ls hl => ?_)
          refine lv_iload hx hb dX9_vote_82 (lv_at hl 0 rfl) ?_
          refine lv_iconst (v := (-1)) hx hb dX9_vote_84 (by decide) ?_
          refine lv_icmp_eq (tgt := 98) hx hb dX9_vote_85 (by decide) (fun c_25 => ?_) (fun c_25 => ?_)
          · skip
            have ic_25 := iv_eq c_25
            refine lv_bipush (v := (-6)) hx hb dX9_vote_98 (by decide) ?_
            exact W.iret hx hb hr (fun t ht hW => ⟨⟨_, _, rfl, rfl, st 3, st 4, st 5, st 6, st 12, jt_1, st 15, x16_2, x17_2, x21_2, x22_2, x24_2, x26_2, y23_2, y27_2, ai 0, ai 14, f19_2, f20_2, f25_2, g18_2, (by omega), (by omega), (by omega), (by omega), (by omega), (by omega), (by omega), (by omega), (by omega), (by omega), (by omega), (by omega), (by omega), (by omega), (by omega), (by omega), (by omega), (by omega), (by omega), (by omega), hR25, by rw [ht]; exact hP⟩, hS.F ht⟩) hS.2.2 dX9_vote_100
          · skip
            have ic_25 := iv_ne c_25
            refine lv_aload_n hx hb dX9_vote_88 rfl (lv_at hl 2 rfl) ?_
            refine lv_iload hx hb dX9_vote_89 (lv_at hl 0 rfl) ?_
            refine vp_callSi (va_Run.run (va_runV (As := [.int r_22]) (rest := []) ⟨hx, hb, hml, hown, hts⟩ (v_X9_aOf l dC dI o c kc (rU (rU (rU (rU (rU (rU (rU st 13 jt_1) 16 x16_2) 17 x17_2) 21 x21_2) 22 x22_2) 24 x24_2) 26 x26_2) (rU (rU lg 23 y23_2) 27 y27_2) (rU (rU (rU ai 19 f19_2) 20 f20_2) 25 f25_2) (rU al 18 g18_2) r_22 (show 0 ≤ (st 7).toInt by omega) (show (st 7).toInt ≤ 1 by omega) (by omega) (by omega)) (cwV 1 hts gX9_vote_X9_aOf rfl rfl rfl (by decide +kernel) ⟨Nat.le_of_ble_eq_true rfl, Nat.le_of_ble_eq_true rfl⟩) ⟨fun a U g mk q => by obtain ⟨q0, qP, qK⟩ := q; exact ⟨q0, qP, va_K.moved (u := U) (U := U.calling g mk a) (Vm.Alike.refl U.vm) qK⟩, va_recv hK hP (ci := 11) (q := (RX9, TX9, 38)) rfl (q0 := 0) rfl, fun U hU hW => ⟨rfl, by rw [hU]; exact hP, va_K.moved hW.alike hK⟩⟩ rfl rfl hl.1 rfl (lv_room (Nat.le_of_ble_eq_true rfl)) dX9_vote_91 ⟨Nat.le_of_ble_eq_true rfl, Nat.le_of_ble_eq_true rfl⟩)) (fun r_26 er_26 => ?_)
            have k_27 := er_26
            have k_27 : r_26.toInt = (rA (ai 0) (st 7) r_22).toInt := k_27
            refine lv_iload_n hx hb dX9_vote_94 rfl (lv_at hl 3 rfl) ?_
            refine lv_icmp_eq (tgt := 101) hx hb dX9_vote_95 (by decide) (fun c_28 => ?_) (fun c_28 => ?_)
            · skip
              have ic_28 := iv_eq c_28
              have join101 : ∀ (H : Heap) (locs : List Loc) (ls : Array Slot), va_P (dC, dI) vwCl (rw_W o c kc (rU (rU (rU (rU (rU (rU (rU st 13 jt_1) 16 x16_2) 17 x17_2) 21 x21_2) 22 x22_2) 24 x24_2) 26 x26_2) (rU (rU lg 23 y23_2) 27 y27_2) (rU (rU (rU ai 19 f19_2) 20 f20_2) 25 f25_2) (rU al 18 g18_2)) H → va_S A s.heap H locs → lv_has ls 10 [(7, .int r_22), (5, .long r_21), (0, .ref o), (1, .int p0), (2, .int p1), (3, .long p2)] → W p l e (headSpec wsX9_vote ({ frames := 7, cells := 0, slots := 0, locals := 159 })).room s m ([.ref o, .int p0, .int p1, .long p2] : List Value).toArray below meth cM H locs 0 0 (MQ below (va_Qi (fun r (u : Int32) => r = u) (fun u t => ∃ (x3 : Int32) (x4 : Int32) (x5 : Int32) (x6 : Int32) (x12 : Int32) (x13 : Int32) (x15 : Int32) (x16 : Int32) (x17 : Int32) (x21 : Int32) (x22 : Int32) (x24 : Int32) (x26 : Int32) (y23 : Int64) (y27 : Int64) (f0 : Nat → Int32) (f14 : Nat → Int32) (f19 : Nat → Int32) (f20 : Nat → Int32) (f25 : Nat → Int32) (g18 : Nat → Int64), (0 ≤ x3.toInt) ∧ (x3.toInt ≤ 1) ∧ (0 ≤ x6.toInt) ∧ (x6.toInt ≤ 1) ∧ (0 ≤ x12.toInt) ∧ (x12.toInt ≤ 8) ∧ (0 ≤ x15.toInt) ∧ (x15.toInt ≤ 128) ∧ (0 ≤ x16.toInt) ∧ (x16.toInt ≤ 128) ∧ (0 ≤ x17.toInt) ∧ (x17.toInt ≤ 1) ∧ (-1 ≤ x21.toInt) ∧ (x21.toInt ≤ 127) ∧ (0 ≤ x22.toInt) ∧ (x22.toInt ≤ 1000000) ∧ (0 ≤ x24.toInt) ∧ (x24.toInt ≤ 1) ∧ (0 ≤ x26.toInt) ∧ (x26.toInt ≤ 2000000) ∧ (aR f25 130 (0) 127) ∧ va_P (dC, dI) vwCl (rw_W o c kc (rU (rU (rU (rU (rU (rU (rU (rU (rU (rU (rU (rU (rU st 3 x3) 4 x4) 5 x5) 6 x6) 12 x12) 13 x13) 15 x15) 16 x16) 17 x17) 21 x21) 22 x22) 24 x24) 26 x26) (rU (rU lg 23 y23) 27 y27) (rU (rU (rU (rU (rU ai 0 f0) 14 f14) 19 f19) 20 f20) 25 f25) (rU al 18 g18)) t.heap) A) ([.ref o, .int p0, .int p1, .long p2] : List Value).toArray s 0 0 A) (F0 m 181 ls []) := by
                intro H locs ls  hP hS hl
                refine lv_aload_n hx hb dX9_vote_181 rfl (lv_at hl 2 rfl) ?_
                refine va_get (D := (dC, dI)) (ci := 11) (v := .int x16_2) (C := RX9) (T := TX9) (N := 38) hx hb hts hin9 hown hK hP 0 rfl rfl 16 (by decide) (hts (.fieldLink RX9 167 "BlockLogModel" "many" "I") (by decide +kernel)) (fun _ h9 => h9) rfl dX9_vote_182 ?_
                refine lv_sipush (v := 128) hx hb dX9_vote_185 (by decide) ?_
                refine lv_icmp_ne (tgt := 194) hx hb dX9_vote_188 (by decide) (fun c_29 => ?_) (fun c_29 => ?_)
                · skip
                  have ic_29 := iv_ne c_29
                  refine lv_aload_n hx hb dX9_vote_194 rfl (lv_at hl 2 rfl) ?_
                  refine lv_iconst (v := 1) hx hb dX9_vote_195 (by decide) ?_
                  refine lv_iload_n hx hb dX9_vote_196 rfl (lv_at hl 3 rfl) ?_
                  refine lv_iload_n hx hb dX9_vote_197 rfl (lv_at hl 4 rfl) ?_
                  refine lv_lload hx hb dX9_vote_198 (lv_at hl 1 rfl) ?_
                  have hFc := vfree (rw_D hD : va_D A (rw_W o c kc (rU (rU (rU (rU (rU (rU (rU st 13 jt_1) 16 x16_2) 17 x17_2) 21 x21_2) 22 x22_2) 24 x24_2) 26 x26_2) (rU (rU lg 23 y23_2) 27 y27_2) (rU (rU (rU ai 19 f19_2) 20 f20_2) 25 f25_2) (rU al 18 g18_2))) hS hA
                  refine va_callv (va_runV (As := [.int (1 : Int32), .int p0, .int p1, .long r_21]) (rest := []) ⟨hx, hb, hml, hown, hts⟩ (v_X9_layRow l dC dI o c kc (rU (rU (rU (rU (rU (rU (rU st 13 jt_1) 16 x16_2) 17 x17_2) 21 x21_2) 22 x22_2) 24 x24_2) 26 x26_2) (rU (rU lg 23 y23_2) 27 y27_2) (rU (rU (rU ai 19 f19_2) 20 f20_2) 25 f25_2) (rU al 18 g18_2) (1 : Int32) p0 p1 r_21 _ ) (cwV 4 hts gX9_vote_X9_layRow rfl rfl rfl (by decide +kernel) ⟨Nat.le_of_ble_eq_true rfl, Nat.le_of_ble_eq_true rfl⟩) ⟨fun a U g mk q => by obtain ⟨q0, q1, qP, qK, qD⟩ := q; exact ⟨q0, q1, qP, va_K.moved (u := U) (U := U.calling g mk a) (Vm.Alike.refl U.vm) qK, qD⟩, va_recv hK hP (ci := 11) (q := (RX9, TX9, 38)) rfl (q0 := 0) rfl, fun U hU hW => ⟨rfl, by rw [hU], by rw [hU]; exact hP, va_K.moved hW.alike hK, rw_D (hD.weaken (fun _ _ _ _ => trivial))⟩⟩ rfl rfl hl.1 rfl (lv_room (Nat.le_of_ble_eq_true rfl)) dX9_vote_200 ⟨Nat.le_of_ble_eq_true rfl, Nat.le_of_ble_eq_true rfl⟩) hS (fun q _ h => hFc q h) hFc (fun ur_30 t H1 locs ht hvm er_30 hB hz1 hk1 hS => ?_)
                  obtain ⟨f14_30, hP1⟩ := hB
                  rw [ht] at hP1
                  clear hFc hz1 hk1 hvm hP
                  subst ht
                  have hP := hP1
                  clear hP1
                  generalize t.heap = H at hP hS ⊢
                  have hP : va_P (dC, dI) vwCl (rw_W o c kc (rU (rU (rU (rU (rU (rU (rU st 13 jt_1) 16 x16_2) 17 x17_2) 21 x21_2) 22 x22_2) 24 x24_2) 26 x26_2) (rU (rU lg 23 y23_2) 27 y27_2) (rU (rU (rU (rU ai 14 f14_30) 19 f19_2) 20 f20_2) 25 f25_2) (rU al 18 g18_2)) H := hP
                  refine lv_aload_n hx hb dX9_vote_203 rfl (lv_at hl 2 rfl) ?_
                  refine lv_aload_n hx hb dX9_vote_204 rfl (lv_at hl 2 rfl) ?_
                  refine lv_aload_n hx hb dX9_vote_205 rfl (lv_at hl 2 rfl) ?_
                  refine va_get (D := (dC, dI)) (ci := 11) (v := .int (st 7)) (C := RX9) (T := TX9) (N := 38) hx hb hts hin9 hown hK hP 0 rfl rfl 7 (by decide) (hts (.fieldLink RX9 76 "BlockLogModel" "area" "I") (by decide +kernel)) (fun _ h9 => h9) rfl dX9_vote_206 ?_
                  refine lv_aload_n hx hb dX9_vote_209 rfl (lv_at hl 2 rfl) ?_
                  refine va_get (D := (dC, dI)) (ci := 11) (v := .int x16_2) (C := RX9) (T := TX9) (N := 38) hx hb hts hin9 hown hK hP 0 rfl rfl 16 (by decide) (hts (.fieldLink RX9 167 "BlockLogModel" "many" "I") (by decide +kernel)) (fun _ h9 => h9) rfl dX9_vote_210 ?_
                  refine vp_callSi (va_Run.run (va_runV (As := [.int (st 7), .int x16_2]) (rest := [.ref o]) ⟨hx, hb, hml, hown, hts⟩ (v_X9_rowPlace l dC dI o c kc (rU (rU (rU (rU (rU (rU (rU st 13 jt_1) 16 x16_2) 17 x17_2) 21 x21_2) 22 x22_2) 24 x24_2) 26 x26_2) (rU (rU lg 23 y23_2) 27 y27_2) (rU (rU (rU (rU ai 14 f14_30) 19 f19_2) 20 f20_2) 25 f25_2) (rU al 18 g18_2) (st 7) x16_2 (by omega) (by omega) (by omega) (by omega)) (cwV 2 hts gX9_vote_X9_rowPlace rfl rfl rfl (by decide +kernel) ⟨Nat.le_of_ble_eq_true rfl, Nat.le_of_ble_eq_true rfl⟩) ⟨fun a U g mk q => by obtain ⟨q0, qP, qK⟩ := q; exact ⟨q0, qP, va_K.moved (u := U) (U := U.calling g mk a) (Vm.Alike.refl U.vm) qK⟩, va_recv hK hP (ci := 11) (q := (RX9, TX9, 38)) rfl (q0 := 0) rfl, fun U hU hW => ⟨rfl, by rw [hU]; exact hP, va_K.moved hW.alike hK⟩⟩ rfl rfl hl.1 rfl (lv_room (Nat.le_of_ble_eq_true rfl)) dX9_vote_213 ⟨Nat.le_of_ble_eq_true rfl, Nat.le_of_ble_eq_true rfl⟩)) (fun r_31 er_31 => ?_)
                  have k_32 := er_31
                  refine lv_bipush (v := 32) hx hb dX9_vote_216 (by decide) ?_
                  have hFc := vfree (rw_D hD : va_D A (rw_W o c kc (rU (rU (rU (rU (rU (rU (rU st 13 jt_1) 16 x16_2) 17 x17_2) 21 x21_2) 22 x22_2) 24 x24_2) 26 x26_2) (rU (rU lg 23 y23_2) 27 y27_2) (rU (rU (rU (rU ai 14 f14_30) 19 f19_2) 20 f20_2) 25 f25_2) (rU al 18 g18_2))) hS hA
                  refine va_callv (va_runV (As := [.int r_31, .int (32 : Int32)]) (rest := []) ⟨hx, hb, hml, hown, hts⟩ (v_X9_writeFresh l dC dI o c kc (rU (rU (rU (rU (rU (rU (rU st 13 jt_1) 16 x16_2) 17 x17_2) 21 x21_2) 22 x22_2) 24 x24_2) 26 x26_2) (rU (rU lg 23 y23_2) 27 y27_2) (rU (rU (rU (rU ai 14 f14_30) 19 f19_2) 20 f20_2) 25 f25_2) (rU al 18 g18_2) r_31 (32 : Int32) _ (show 0 ≤ (st 3).toInt by omega) (show (st 3).toInt ≤ 1 by omega) (show 0 ≤ (st 6).toInt by omega) (show (st 6).toInt ≤ 1 by omega) (show 0 ≤ (st 12).toInt by omega) (show (st 12).toInt ≤ 8 by omega) (by omega) (by omega) (by omega) (by omega)) (cwV 2 hts gX9_vote_X9_writeFresh rfl rfl rfl (by decide +kernel) ⟨Nat.le_of_ble_eq_true rfl, Nat.le_of_ble_eq_true rfl⟩) ⟨fun a U g mk q => by obtain ⟨q0, q1, qP, qK, qD⟩ := q; exact ⟨q0, q1, qP, va_K.moved (u := U) (U := U.calling g mk a) (Vm.Alike.refl U.vm) qK, qD⟩, va_recv hK hP (ci := 11) (q := (RX9, TX9, 38)) rfl (q0 := 0) rfl, fun U hU hW => ⟨rfl, by rw [hU], by rw [hU]; exact hP, va_K.moved hW.alike hK, rw_D (hD.weaken (fun _ _ _ _ => trivial))⟩⟩ rfl rfl hl.1 rfl (lv_room (Nat.le_of_ble_eq_true rfl)) dX9_vote_218 ⟨Nat.le_of_ble_eq_true rfl, Nat.le_of_ble_eq_true rfl⟩) hS (fun q _ h => hFc q h) hFc (fun ur_33 t H1 locs ht hvm er_33 hB hz1 hk1 hS => ?_)
                  obtain ⟨x3_33, x4_33, x5_33, x6_33, x12_33, f0_33, k_34, k_35, k_36, k_37, k_38, k_39, hP1⟩ := hB
                  rw [ht] at hP1
                  clear hFc hz1 hk1 hvm hP
                  subst ht
                  have hP := hP1
                  clear hP1
                  generalize t.heap = H at hP hS ⊢
                  have hP : va_P (dC, dI) vwCl (rw_W o c kc (rU (rU (rU (rU (rU (rU (rU (rU (rU (rU (rU (rU st 3 x3_33) 4 x4_33) 5 x5_33) 6 x6_33) 12 x12_33) 13 jt_1) 16 x16_2) 17 x17_2) 21 x21_2) 22 x22_2) 24 x24_2) 26 x26_2) (rU (rU lg 23 y23_2) 27 y27_2) (rU (rU (rU (rU (rU ai 0 f0_33) 14 f14_30) 19 f19_2) 20 f20_2) 25 f25_2) (rU al 18 g18_2)) H := hP
                  have k_34 : 0 ≤ x3_33.toInt := k_34
                  have k_35 : x3_33.toInt ≤ 1 := k_35
                  have k_36 : 0 ≤ x6_33.toInt := k_36
                  have k_37 : x6_33.toInt ≤ 1 := k_37
                  have k_38 : 0 ≤ x12_33.toInt := k_38
                  have k_39 : x12_33.toInt ≤ 8 := k_39
                  refine lv_aload_n hx hb dX9_vote_221 rfl (lv_at hl 2 rfl) ?_
                  refine lv_dup hx hb dX9_vote_222 rfl ?_
                  refine va_get (D := (dC, dI)) (ci := 11) (v := .int (st 15)) (C := RX9) (T := TX9) (N := 38) hx hb hts hin9 hown hK hP 0 rfl rfl 15 (by decide) (hts (.fieldLink RX9 157 "BlockLogModel" "rowsNow" "I") (by decide +kernel)) (fun _ h9 => h9) rfl dX9_vote_223 ?_
                  refine lv_iconst (v := 1) hx hb dX9_vote_226 (by decide) ?_
                  refine lv_iadd hx hb dX9_vote_227 ?_
                  refine lv_topi (fun v_40 ev_40 => ?_)
                  have rg1 := iv_rng (st 15)
                  have hv_40 : v_40.toInt = (st 15).toInt + 1 := by rw [ev_40]; exact (iv_add (by omega) (by omega)).trans (by omega)
                  clear ev_40
                  refine va_put (D := (dC, dI)) (ci := 11) (v := .int v_40) (ty := .int) (C := RX9) (T := TX9) (N := 38) hx hb hts hin9 tyX9 tyX9_ok nmX9 hown hK hP (rw_D hD) hS 0 rfl rfl 15 (by decide) (hts (.fieldLink RX9 157 "BlockLogModel" "rowsNow" "I") (by decide +kernel)) (fun _ h9 => h9) rfl (by decide +kernel) rfl rfl (Nat.le_of_ble_eq_true rfl) dX9_vote_228 (fun H locs hP _ hS => ?_)
                  have hP : va_P (dC, dI) vwCl (rw_W o c kc (rU (rU (rU (rU (rU (rU (rU (rU (rU (rU (rU (rU (rU st 3 x3_33) 4 x4_33) 5 x5_33) 6 x6_33) 12 x12_33) 13 jt_1) 15 v_40) 16 x16_2) 17 x17_2) 21 x21_2) 22 x22_2) 24 x24_2) 26 x26_2) (rU (rU lg 23 y23_2) 27 y27_2) (rU (rU (rU (rU (rU ai 0 f0_33) 14 f14_30) 19 f19_2) 20 f20_2) 25 f25_2) (rU al 18 g18_2)) H := hP
                  refine lv_aload_n hx hb dX9_vote_231 rfl (lv_at hl 2 rfl) ?_
                  refine va_get (D := (dC, dI)) (ci := 11) (v := .int x6_33) (C := RX9) (T := TX9) (N := 38) hx hb hts hin9 hown hK hP 0 rfl rfl 6 (by decide) (hts (.fieldLink RX9 108 "BlockLogModel" "dark" "Z") (by decide +kernel)) (fun _ h9 => h9) rfl dX9_vote_232 ?_
                  refine lv_if_eq (tgt := 243) hx hb dX9_vote_235 (by decide) (fun c_41 => ?_) (fun c_41 => ?_)
                  · skip
                    have ic_41 := iv_eq c_41
                    refine lv_aload_n hx hb dX9_vote_243 rfl (lv_at hl 2 rfl) ?_
                    refine va_get (D := (dC, dI)) (ci := 11) (v := .int x16_2) (C := RX9) (T := TX9) (N := 38) hx hb hts hin9 hown hK hP 0 rfl rfl 16 (by decide) (hts (.fieldLink RX9 167 "BlockLogModel" "many" "I") (by decide +kernel)) (fun _ h9 => h9) rfl dX9_vote_244 ?_
                    exact W.iret hx hb hr (fun t ht hW => ⟨⟨_, _, rfl, rfl, x3_33, x4_33, x5_33, x6_33, x12_33, jt_1, v_40, x16_2, x17_2, x21_2, x22_2, x24_2, x26_2, y23_2, y27_2, f0_33, f14_30, f19_2, f20_2, f25_2, g18_2, (by omega), (by omega), (by omega), (by omega), (by omega), (by omega), (by omega), (by omega), (by omega), (by omega), (by omega), (by omega), (by omega), (by omega), (by omega), (by omega), (by omega), (by omega), (by omega), (by omega), hR25, by rw [ht]; exact hP⟩, hS.F ht⟩) hS.2.2 dX9_vote_247
                  · skip
                    have ic_41 := iv_ne c_41
                    refine lv_bipush (v := (-4)) hx hb dX9_vote_238 (by decide) ?_
                    refine lv_goto (tgt := 247) hx hb dX9_vote_240 (by decide) ?_
                    exact W.iret hx hb hr (fun t ht hW => ⟨⟨_, _, rfl, rfl, x3_33, x4_33, x5_33, x6_33, x12_33, jt_1, v_40, x16_2, x17_2, x21_2, x22_2, x24_2, x26_2, y23_2, y27_2, f0_33, f14_30, f19_2, f20_2, f25_2, g18_2, (by omega), (by omega), (by omega), (by omega), (by omega), (by omega), (by omega), (by omega), (by omega), (by omega), (by omega), (by omega), (by omega), (by omega), (by omega), (by omega), (by omega), (by omega), (by omega), (by omega), hR25, by rw [ht]; exact hP⟩, hS.F ht⟩) hS.2.2 dX9_vote_247
                · skip
                  have ic_29 := iv_eq c_29
                  refine lv_bipush (v := (-2)) hx hb dX9_vote_191 (by decide) ?_
                  exact W.iret hx hb hr (fun t ht hW => ⟨⟨_, _, rfl, rfl, st 3, st 4, st 5, st 6, st 12, jt_1, st 15, x16_2, x17_2, x21_2, x22_2, x24_2, x26_2, y23_2, y27_2, ai 0, ai 14, f19_2, f20_2, f25_2, g18_2, (by omega), (by omega), (by omega), (by omega), (by omega), (by omega), (by omega), (by omega), (by omega), (by omega), (by omega), (by omega), (by omega), (by omega), (by omega), (by omega), (by omega), (by omega), (by omega), (by omega), hR25, by rw [ht]; exact hP⟩, hS.F ht⟩) hS.2.2 dX9_vote_193
              refine lv_aload_n hx hb dX9_vote_101 rfl (lv_at hl 2 rfl) ?_
              refine va_get (D := (dC, dI)) (ci := 11) (v := .int x21_2) (C := RX9) (T := TX9) (N := 38) hx hb hts hin9 hown hK hP 0 rfl rfl 21 (by decide) (hts (.fieldLink RX9 179 "BlockLogModel" "lastVote" "I") (by decide +kernel)) (fun _ h9 => h9) rfl dX9_vote_102 ?_
              refine lv_iconst (v := (-1)) hx hb dX9_vote_105 (by decide) ?_
              refine lv_icmp_eq (tgt := 181) hx hb dX9_vote_106 (by decide) (fun c_42 => ?_) (fun c_42 => ?_)
              · skip
                have ic_42 := iv_eq c_42
                exact join101 _ _ _ hP hS (lv_sub hl [0, 1, 2, 3, 4, 5] rfl)
              · skip
                have ic_42 := iv_ne c_42
                refine lv_aload_n hx hb dX9_vote_109 rfl (lv_at hl 2 rfl) ?_
                refine lv_aload_n hx hb dX9_vote_110 rfl (lv_at hl 2 rfl) ?_
                refine va_get (D := (dC, dI)) (ci := 11) (v := .int x21_2) (C := RX9) (T := TX9) (N := 38) hx hb hts hin9 hown hK hP 0 rfl rfl 21 (by decide) (hts (.fieldLink RX9 179 "BlockLogModel" "lastVote" "I") (by decide +kernel)) (fun _ h9 => h9) rfl dX9_vote_111 ?_
                refine vp_callSi (va_Run.run (va_runV (As := [.int x21_2]) (rest := []) ⟨hx, hb, hml, hown, hts⟩ (v_X9_aOf l dC dI o c kc (rU (rU (rU (rU (rU (rU (rU st 13 jt_1) 16 x16_2) 17 x17_2) 21 x21_2) 22 x22_2) 24 x24_2) 26 x26_2) (rU (rU lg 23 y23_2) 27 y27_2) (rU (rU (rU ai 19 f19_2) 20 f20_2) 25 f25_2) (rU al 18 g18_2) x21_2 (show 0 ≤ (st 7).toInt by omega) (show (st 7).toInt ≤ 1 by omega) (by omega) (by omega)) (cwV 1 hts gX9_vote_X9_aOf rfl rfl rfl (by decide +kernel) ⟨Nat.le_of_ble_eq_true rfl, Nat.le_of_ble_eq_true rfl⟩) ⟨fun a U g mk q => by obtain ⟨q0, qP, qK⟩ := q; exact ⟨q0, qP, va_K.moved (u := U) (U := U.calling g mk a) (Vm.Alike.refl U.vm) qK⟩, va_recv hK hP (ci := 11) (q := (RX9, TX9, 38)) rfl (q0 := 0) rfl, fun U hU hW => ⟨rfl, by rw [hU]; exact hP, va_K.moved hW.alike hK⟩⟩ rfl rfl hl.1 rfl (lv_room (Nat.le_of_ble_eq_true rfl)) dX9_vote_114 ⟨Nat.le_of_ble_eq_true rfl, Nat.le_of_ble_eq_true rfl⟩)) (fun r_43 er_43 => ?_)
                have k_44 := er_43
                have k_44 : r_43.toInt = (rA (ai 0) (st 7) x21_2).toInt := k_44
                refine lv_istore (lv' := [(8, .int r_43), (7, .int r_22), (5, .long r_21), (0, .ref o), (1, .int p0), (2, .int p1), (3, .long p2)]) hx hb dX9_vote_117 hl (by decide) rfl (fun ls hl => ?_)
                refine lv_aload_n hx hb dX9_vote_119 rfl (lv_at hl 3 rfl) ?_
                refine lv_aload_n hx hb dX9_vote_120 rfl (lv_at hl 3 rfl) ?_
                refine va_get (D := (dC, dI)) (ci := 11) (v := .int x21_2) (C := RX9) (T := TX9) (N := 38) hx hb hts hin9 hown hK hP 0 rfl rfl 21 (by decide) (hts (.fieldLink RX9 179 "BlockLogModel" "lastVote" "I") (by decide +kernel)) (fun _ h9 => h9) rfl dX9_vote_121 ?_
                refine vp_callSi (va_Run.run (va_runV (As := [.int x21_2]) (rest := []) ⟨hx, hb, hml, hown, hts⟩ (v_X9_bOf l dC dI o c kc (rU (rU (rU (rU (rU (rU (rU st 13 jt_1) 16 x16_2) 17 x17_2) 21 x21_2) 22 x22_2) 24 x24_2) 26 x26_2) (rU (rU lg 23 y23_2) 27 y27_2) (rU (rU (rU ai 19 f19_2) 20 f20_2) 25 f25_2) (rU al 18 g18_2) x21_2 (show 0 ≤ (st 7).toInt by omega) (show (st 7).toInt ≤ 1 by omega) (by omega) (by omega)) (cwV 1 hts gX9_vote_X9_bOf rfl rfl rfl (by decide +kernel) ⟨Nat.le_of_ble_eq_true rfl, Nat.le_of_ble_eq_true rfl⟩) ⟨fun a U g mk q => by obtain ⟨q0, qP, qK⟩ := q; exact ⟨q0, qP, va_K.moved (u := U) (U := U.calling g mk a) (Vm.Alike.refl U.vm) qK⟩, va_recv hK hP (ci := 11) (q := (RX9, TX9, 38)) rfl (q0 := 0) rfl, fun U hU hW => ⟨rfl, by rw [hU]; exact hP, va_K.moved hW.alike hK⟩⟩ rfl rfl hl.1 rfl (lv_room (Nat.le_of_ble_eq_true rfl)) dX9_vote_124 ⟨Nat.le_of_ble_eq_true rfl, Nat.le_of_ble_eq_true rfl⟩)) (fun r_45 er_45 => ?_)
                have k_46 := er_45
                have k_46 : r_45.toInt = (rB (ai 0) (st 7) x21_2).toInt := k_46
                refine lv_istore (lv' := [(9, .int r_45), (8, .int r_43), (7, .int r_22), (5, .long r_21), (0, .ref o), (1, .int p0), (2, .int p1), (3, .long p2)]) hx hb dX9_vote_127 hl (by decide) rfl (fun ls hl => ?_)
                refine lv_iload hx hb dX9_vote_129 (lv_at hl 1 rfl) ?_
                refine lv_iload_n hx hb dX9_vote_131 rfl (lv_at hl 5 rfl) ?_
                refine lv_icmp_ne (tgt := 160) hx hb dX9_vote_132 (by decide) (fun c_47 => ?_) (fun c_47 => ?_)
                · skip
                  have ic_47 := iv_ne c_47
                  refine lv_iload hx hb dX9_vote_160 (lv_at hl 1 rfl) ?_
                  refine lv_iload_n hx hb dX9_vote_162 rfl (lv_at hl 5 rfl) ?_
                  refine lv_icmp_gt (tgt := 178) hx hb dX9_vote_163 (by decide) (fun c_48 => ?_) (fun c_48 => ?_)
                  · skip
                    have ic_48 := iv_lt c_48
                    refine lv_bipush (v := (-7)) hx hb dX9_vote_178 (by decide) ?_
                    exact W.iret hx hb hr (fun t ht hW => ⟨⟨_, _, rfl, rfl, st 3, st 4, st 5, st 6, st 12, jt_1, st 15, x16_2, x17_2, x21_2, x22_2, x24_2, x26_2, y23_2, y27_2, ai 0, ai 14, f19_2, f20_2, f25_2, g18_2, (by omega), (by omega), (by omega), (by omega), (by omega), (by omega), (by omega), (by omega), (by omega), (by omega), (by omega), (by omega), (by omega), (by omega), (by omega), (by omega), (by omega), (by omega), (by omega), (by omega), hR25, by rw [ht]; exact hP⟩, hS.F ht⟩) hS.2.2 dX9_vote_180
                  · skip
                    have ic_48 := iv_nlt c_48
                    refine lv_iload hx hb dX9_vote_166 (lv_at hl 1 rfl) ?_
                    refine lv_iload_n hx hb dX9_vote_168 rfl (lv_at hl 5 rfl) ?_
                    refine lv_icmp_ne (tgt := 181) hx hb dX9_vote_169 (by decide) (fun c_49 => ?_) (fun c_49 => ?_)
                    · skip
                      have ic_49 := iv_ne c_49
                      exact join101 _ _ _ hP hS (lv_sub hl [2, 3, 4, 5, 6, 7] rfl)
                    · skip
                      have ic_49 := iv_eq c_49
                      exfalso
                      omega
                · skip
                  have ic_47 := iv_eq c_47
                  refine lv_iload hx hb dX9_vote_135 (lv_at hl 0 rfl) ?_
                  refine lv_iload_n hx hb dX9_vote_137 rfl (lv_at hl 6 rfl) ?_
                  refine lv_icmp_ne (tgt := 160) hx hb dX9_vote_138 (by decide) (fun c_50 => ?_) (fun c_50 => ?_)
                  · skip
                    have ic_50 := iv_ne c_50
                    refine lv_iload hx hb dX9_vote_160 (lv_at hl 1 rfl) ?_
                    refine lv_iload_n hx hb dX9_vote_162 rfl (lv_at hl 5 rfl) ?_
                    refine lv_icmp_gt (tgt := 178) hx hb dX9_vote_163 (by decide) (fun c_51 => ?_) (fun c_51 => ?_)
                    · skip
                      have ic_51 := iv_lt c_51
                      exfalso
                      omega
                    · skip
                      have ic_51 := iv_nlt c_51
                      refine lv_iload hx hb dX9_vote_166 (lv_at hl 1 rfl) ?_
                      refine lv_iload_n hx hb dX9_vote_168 rfl (lv_at hl 5 rfl) ?_
                      refine lv_icmp_ne (tgt := 181) hx hb dX9_vote_169 (by decide) (fun c_52 => ?_) (fun c_52 => ?_)
                      · skip
                        have ic_52 := iv_ne c_52
                        exfalso
                        omega
                      · skip
                        have ic_52 := iv_eq c_52
                        refine lv_iload hx hb dX9_vote_172 (lv_at hl 0 rfl) ?_
                        refine lv_iload_n hx hb dX9_vote_174 rfl (lv_at hl 6 rfl) ?_
                        refine lv_icmp_lt (tgt := 181) hx hb dX9_vote_175 (by decide) (fun c_53 => ?_) (fun c_53 => ?_)
                        · skip
                          have ic_53 := iv_lt c_53
                          exact join101 _ _ _ hP hS (lv_sub hl [2, 3, 4, 5, 6, 7] rfl)
                        · skip
                          have ic_53 := iv_nlt c_53
                          refine lv_bipush (v := (-7)) hx hb dX9_vote_178 (by decide) ?_
                          exact W.iret hx hb hr (fun t ht hW => ⟨⟨_, _, rfl, rfl, st 3, st 4, st 5, st 6, st 12, jt_1, st 15, x16_2, x17_2, x21_2, x22_2, x24_2, x26_2, y23_2, y27_2, ai 0, ai 14, f19_2, f20_2, f25_2, g18_2, (by omega), (by omega), (by omega), (by omega), (by omega), (by omega), (by omega), (by omega), (by omega), (by omega), (by omega), (by omega), (by omega), (by omega), (by omega), (by omega), (by omega), (by omega), (by omega), (by omega), hR25, by rw [ht]; exact hP⟩, hS.F ht⟩) hS.2.2 dX9_vote_180
                  · skip
                    have ic_50 := iv_eq c_50
                    refine lv_aload_n hx hb dX9_vote_141 rfl (lv_at hl 4 rfl) ?_
                    refine lv_aload_n hx hb dX9_vote_142 rfl (lv_at hl 4 rfl) ?_
                    refine va_get (D := (dC, dI)) (ci := 11) (v := .int x21_2) (C := RX9) (T := TX9) (N := 38) hx hb hts hin9 hown hK hP 0 rfl rfl 21 (by decide) (hts (.fieldLink RX9 179 "BlockLogModel" "lastVote" "I") (by decide +kernel)) (fun _ h9 => h9) rfl dX9_vote_143 ?_
                    refine vp_callSl (va_Run.run (va_runV (As := [.int x21_2]) (rest := []) ⟨hx, hb, hml, hown, hts⟩ (v_X9_cOf l dC dI o c kc (rU (rU (rU (rU (rU (rU (rU st 13 jt_1) 16 x16_2) 17 x17_2) 21 x21_2) 22 x22_2) 24 x24_2) 26 x26_2) (rU (rU lg 23 y23_2) 27 y27_2) (rU (rU (rU ai 19 f19_2) 20 f20_2) 25 f25_2) (rU al 18 g18_2) x21_2 (show 0 ≤ (st 7).toInt by omega) (show (st 7).toInt ≤ 1 by omega) (by omega) (by omega)) (cwV 1 hts gX9_vote_X9_cOf rfl rfl rfl (by decide +kernel) ⟨Nat.le_of_ble_eq_true rfl, Nat.le_of_ble_eq_true rfl⟩) ⟨fun a U g mk q => by obtain ⟨q0, qP, qK⟩ := q; exact ⟨q0, qP, va_K.moved (u := U) (U := U.calling g mk a) (Vm.Alike.refl U.vm) qK⟩, va_recv hK hP (ci := 11) (q := (RX9, TX9, 38)) rfl (q0 := 0) rfl, fun U hU hW => ⟨rfl, by rw [hU]; exact hP, va_K.moved hW.alike hK⟩⟩ rfl rfl hl.1 rfl (lv_room (Nat.le_of_ble_eq_true rfl)) dX9_vote_146 ⟨Nat.le_of_ble_eq_true rfl, Nat.le_of_ble_eq_true rfl⟩)) (fun r_54 er_54 => ?_)
                    have hc := er_54
                    have hc : r_54 = rC (ai 0) (st 7) x21_2 := hc
                    refine lv_lload hx hb dX9_vote_149 (lv_at hl 3 rfl) ?_
                    refine W.lcmp hx hb dX9_vote_151 ?_
                    refine lv_topi (fun v_55 ev_55 => ?_)
                    clear ev_55
                    refine lv_if_ne (tgt := 160) hx hb dX9_vote_152 (by decide) (fun c_56 => ?_) (fun c_56 => ?_)
                    · skip
                      have ic_56 := iv_ne c_56
                      refine lv_iload hx hb dX9_vote_160 (lv_at hl 1 rfl) ?_
                      refine lv_iload_n hx hb dX9_vote_162 rfl (lv_at hl 5 rfl) ?_
                      refine lv_icmp_gt (tgt := 178) hx hb dX9_vote_163 (by decide) (fun c_57 => ?_) (fun c_57 => ?_)
                      · skip
                        have ic_57 := iv_lt c_57
                        exfalso
                        omega
                      · skip
                        have ic_57 := iv_nlt c_57
                        refine lv_iload hx hb dX9_vote_166 (lv_at hl 1 rfl) ?_
                        refine lv_iload_n hx hb dX9_vote_168 rfl (lv_at hl 5 rfl) ?_
                        refine lv_icmp_ne (tgt := 181) hx hb dX9_vote_169 (by decide) (fun c_58 => ?_) (fun c_58 => ?_)
                        · skip
                          have ic_58 := iv_ne c_58
                          exfalso
                          omega
                        · skip
                          have ic_58 := iv_eq c_58
                          refine lv_iload hx hb dX9_vote_172 (lv_at hl 0 rfl) ?_
                          refine lv_iload_n hx hb dX9_vote_174 rfl (lv_at hl 6 rfl) ?_
                          refine lv_icmp_lt (tgt := 181) hx hb dX9_vote_175 (by decide) (fun c_59 => ?_) (fun c_59 => ?_)
                          · skip
                            have ic_59 := iv_lt c_59
                            exfalso
                            omega
                          · skip
                            have ic_59 := iv_nlt c_59
                            refine lv_bipush (v := (-7)) hx hb dX9_vote_178 (by decide) ?_
                            exact W.iret hx hb hr (fun t ht hW => ⟨⟨_, _, rfl, rfl, st 3, st 4, st 5, st 6, st 12, jt_1, st 15, x16_2, x17_2, x21_2, x22_2, x24_2, x26_2, y23_2, y27_2, ai 0, ai 14, f19_2, f20_2, f25_2, g18_2, (by omega), (by omega), (by omega), (by omega), (by omega), (by omega), (by omega), (by omega), (by omega), (by omega), (by omega), (by omega), (by omega), (by omega), (by omega), (by omega), (by omega), (by omega), (by omega), (by omega), hR25, by rw [ht]; exact hP⟩, hS.F ht⟩) hS.2.2 dX9_vote_180
                    · skip
                      have ic_56 := iv_eq c_56
                      refine lv_aload_n hx hb dX9_vote_155 rfl (lv_at hl 4 rfl) ?_
                      refine va_get (D := (dC, dI)) (ci := 11) (v := .int x21_2) (C := RX9) (T := TX9) (N := 38) hx hb hts hin9 hown hK hP 0 rfl rfl 21 (by decide) (hts (.fieldLink RX9 179 "BlockLogModel" "lastVote" "I") (by decide +kernel)) (fun _ h9 => h9) rfl dX9_vote_156 ?_
                      exact W.iret hx hb hr (fun t ht hW => ⟨⟨_, _, rfl, rfl, st 3, st 4, st 5, st 6, st 12, jt_1, st 15, x16_2, x17_2, x21_2, x22_2, x24_2, x26_2, y23_2, y27_2, ai 0, ai 14, f19_2, f20_2, f25_2, g18_2, (by omega), (by omega), (by omega), (by omega), (by omega), (by omega), (by omega), (by omega), (by omega), (by omega), (by omega), (by omega), (by omega), (by omega), (by omega), (by omega), (by omega), (by omega), (by omega), (by omega), hR25, by rw [ht]; exact hP⟩, hS.F ht⟩) hS.2.2 dX9_vote_159
            · skip
              have ic_28 := iv_ne c_28
              refine lv_bipush (v := (-6)) hx hb dX9_vote_98 (by decide) ?_
              exact W.iret hx hb hr (fun t ht hW => ⟨⟨_, _, rfl, rfl, st 3, st 4, st 5, st 6, st 12, jt_1, st 15, x16_2, x17_2, x21_2, x22_2, x24_2, x26_2, y23_2, y27_2, ai 0, ai 14, f19_2, f20_2, f25_2, g18_2, (by omega), (by omega), (by omega), (by omega), (by omega), (by omega), (by omega), (by omega), (by omega), (by omega), (by omega), (by omega), (by omega), (by omega), (by omega), (by omega), (by omega), (by omega), (by omega), (by omega), hR25, by rw [ht]; exact hP⟩, hS.F ht⟩) hS.2.2 dX9_vote_100
        · skip
          have ic_20 := iv_ne c_20
          refine lv_bipush (v := (-3)) hx hb dX9_vote_60 (by decide) ?_
          exact W.iret hx hb hr (fun t ht hW => ⟨⟨_, _, rfl, rfl, st 3, st 4, st 5, st 6, st 12, jt_1, st 15, x16_2, x17_2, x21_2, x22_2, x24_2, x26_2, y23_2, y27_2, ai 0, ai 14, f19_2, f20_2, f25_2, g18_2, (by omega), (by omega), (by omega), (by omega), (by omega), (by omega), (by omega), (by omega), (by omega), (by omega), (by omega), (by omega), (by omega), (by omega), (by omega), (by omega), (by omega), (by omega), (by omega), (by omega), hR25, by rw [ht]; exact hP⟩, hS.F ht⟩) hS.2.2 dX9_vote_62
      · skip
        have ic_1 := iv_nle c_1
        refine lv_iconst (v := 0) hx hb dX9_vote_47 (by decide) ?_
        exact W.iret hx hb hr (fun t ht hW => ⟨⟨_, _, rfl, rfl, st 3, st 4, st 5, st 6, st 12, jt_1, st 15, st 16, st 17, st 21, st 22, st 24, st 26, lg 23, lg 27, ai 0, ai 14, ai 19, ai 20, ai 25, al 18, (by omega), (by omega), (by omega), (by omega), (by omega), (by omega), (by omega), (by omega), (by omega), (by omega), (by omega), (by omega), (by omega), (by omega), (by omega), (by omega), (by omega), (by omega), (by omega), (by omega), hR25, by rw [ht]; exact hP⟩, hS.F ht⟩) hS.2.2 dX9_vote_48
    refine lv_aload_n hx hb dX9_vote_1 rfl (lv_at hl 0 rfl) ?_
    refine va_get (D := (dC, dI)) (ci := 11) (v := .int (st 3)) (C := RX9) (T := TX9) (N := 38) hx hb hts hin9 hown hK hP 0 rfl rfl 3 (by decide) (hts (.fieldLink RX9 72 "BlockLogModel" "on" "Z") (by decide +kernel)) (fun _ h9 => h9) rfl dX9_vote_2 ?_
    refine lv_if_ne (tgt := 12) hx hb dX9_vote_5 (by decide) (fun c_60 => ?_) (fun c_60 => ?_)
    · skip
      have ic_60 := iv_ne c_60
      refine lv_iload_n hx hb dX9_vote_12 rfl (lv_at hl 1 rfl) ?_
      refine lv_iconst (v := 1) hx hb dX9_vote_13 (by decide) ?_
      refine lv_ldc hx hb hown (hts (.constant RX9 208 (1000000)) (by decide +kernel)) dX9_vote_14 ?_
      refine vp_callSi (va_Run.run (va_runS (As := [.int p0, .int (1 : Int32), .int (1000000 : Int32)]) (rest := [.ref o]) ⟨hx, hb, hml, hown, hts⟩ (v_X9_within l dC dI p0 (1 : Int32) (1000000 : Int32) ) (va_cwS 3 hts gX9_vote_X9_within rfl rfl rfl (by decide +kernel) ⟨Nat.le_of_ble_eq_true rfl, Nat.le_of_ble_eq_true rfl⟩) ⟨fun a U g mk q => q, fun U hU hW => ⟨rfl, trivial⟩⟩ rfl rfl hl.1 rfl (lv_room (Nat.le_of_ble_eq_true rfl)) dX9_vote_16 ⟨Nat.le_of_ble_eq_true rfl, Nat.le_of_ble_eq_true rfl⟩)) (fun r_61 er_61 => ?_)
      obtain ⟨k_62, k_63, k_64, k_65, k_66⟩ := er_61
      rcases iv_01 (a := r_61) (by omega) (by omega) with b_67 | b_67
      · skip
        have ib_67 := iv_eq b_67
        rw [b_67]
        refine lv_if_eq (tgt := 32) hx hb dX9_vote_19 (by decide) (fun c_68 => ?_) (fun c_68 => ?_)
        · skip
          have ic_68 := iv_eq c_68
          refine lv_iconst (v := 2) hx hb dX9_vote_32 (by decide) ?_
          refine lv_goto (tgt := 37) hx hb dX9_vote_33 (by decide) ?_
          exact join1 (2 : Int32) _ _ _ (by omega) (by omega) hP hS (lv_sub hl [0, 1, 2, 3] rfl)
        · skip
          have ic_68 := iv_ne c_68
          exfalso
          omega
      · skip
        have ib_67 := iv_eq b_67
        rw [b_67]
        refine lv_if_eq (tgt := 32) hx hb dX9_vote_19 (by decide) (fun c_69 => ?_) (fun c_69 => ?_)
        · skip
          have ic_69 := iv_eq c_69
          exfalso
          omega
        · skip
          have ic_69 := iv_ne c_69
          refine lv_iload_n hx hb dX9_vote_22 rfl (lv_at hl 2 rfl) ?_
          refine lv_iconst (v := 0) hx hb dX9_vote_23 (by decide) ?_
          refine lv_ldc hx hb hown (hts (.constant RX9 208 (1000000)) (by decide +kernel)) dX9_vote_24 ?_
          refine vp_callSi (va_Run.run (va_runS (As := [.int p1, .int (0 : Int32), .int (1000000 : Int32)]) (rest := [.ref o]) ⟨hx, hb, hml, hown, hts⟩ (v_X9_within l dC dI p1 (0 : Int32) (1000000 : Int32) ) (va_cwS 3 hts gX9_vote_X9_within rfl rfl rfl (by decide +kernel) ⟨Nat.le_of_ble_eq_true rfl, Nat.le_of_ble_eq_true rfl⟩) ⟨fun a U g mk q => q, fun U hU hW => ⟨rfl, trivial⟩⟩ rfl rfl hl.1 rfl (lv_room (Nat.le_of_ble_eq_true rfl)) dX9_vote_26 ⟨Nat.le_of_ble_eq_true rfl, Nat.le_of_ble_eq_true rfl⟩)) (fun r_70 er_70 => ?_)
          obtain ⟨k_71, k_72, k_73, k_74, k_75⟩ := er_70
          rcases iv_01 (a := r_70) (by omega) (by omega) with b_76 | b_76
          · skip
            have ib_76 := iv_eq b_76
            rw [b_76]
            refine lv_if_ne (tgt := 36) hx hb dX9_vote_29 (by decide) (fun c_77 => ?_) (fun c_77 => ?_)
            · skip
              have ic_77 := iv_ne c_77
              exfalso
              omega
            · skip
              have ic_77 := iv_eq c_77
              refine lv_iconst (v := 2) hx hb dX9_vote_32 (by decide) ?_
              refine lv_goto (tgt := 37) hx hb dX9_vote_33 (by decide) ?_
              exact join1 (2 : Int32) _ _ _ (by omega) (by omega) hP hS (lv_sub hl [0, 1, 2, 3] rfl)
          · skip
            have ib_76 := iv_eq b_76
            rw [b_76]
            refine lv_if_ne (tgt := 36) hx hb dX9_vote_29 (by decide) (fun c_78 => ?_) (fun c_78 => ?_)
            · skip
              have ic_78 := iv_ne c_78
              refine lv_iconst (v := 0) hx hb dX9_vote_36 (by decide) ?_
              exact join1 (0 : Int32) _ _ _ (by omega) (by omega) hP hS (lv_sub hl [0, 1, 2, 3] rfl)
            · skip
              have ic_78 := iv_eq c_78
              exfalso
              omega
    · skip
      have ic_60 := iv_eq c_60
      refine lv_iconst (v := 1) hx hb dX9_vote_8 (by decide) ?_
      refine lv_goto (tgt := 37) hx hb dX9_vote_9 (by decide) ?_
      exact join1 (1 : Int32) _ _ _ (by omega) (by omega) hP hS (lv_sub hl [0, 1, 2, 3] rfl)
  exact main s.heap [] hP hS

set_option maxHeartbeats 4000000 in
set_option maxRecDepth 100000 in
theorem v_X9_certify (l : Launch) (dC : Nat → ClassId) (dI : Nat → Nat → Nat) (o : Nat) (c : Nat → Nat) (kc : Nat → ClassId) (st : Nat → Int32) (lg : Nat → Int64) (ai : Nat → Nat → Int32) (al : Nat → Nat → Int64) (p0 : Int64) (p1 : Int32) (sz : Nat) (hf3a : 0 ≤ (st 3).toInt) (hf3b : (st 3).toInt ≤ 1) (hf6a : 0 ≤ (st 6).toInt) (hf6b : (st 6).toInt ≤ 1) (hf7a : 0 ≤ (st 7).toInt) (hf7b : (st 7).toInt ≤ 1) (hf12a : 0 ≤ (st 12).toInt) (hf12b : (st 12).toInt ≤ 8) (hf15a : 0 ≤ (st 15).toInt) (hf15b : (st 15).toInt ≤ 128) (hf16a : 0 ≤ (st 16).toInt) (hf16b : (st 16).toInt ≤ 128) (hf17a : 0 ≤ (st 17).toInt) (hf17b : (st 17).toInt ≤ 1) (hf21a : -1 ≤ (st 21).toInt) (hf21b : (st 21).toInt ≤ 127) (hf22a : 0 ≤ (st 22).toInt) (hf22b : (st 22).toInt ≤ 1000000) (hf24a : 0 ≤ (st 24).toInt) (hf24b : (st 24).toInt ≤ 1) (hf26a : 0 ≤ (st 26).toInt) (hf26b : (st 26).toInt ≤ 2000000) (hR25 : aR (ai 25) 130 (0) 127) : Met l yX9_certify wsX9_certify ({ frames := 7, cells := 0, slots := 0, locals := 159 }) (va_Pc [.ref o, .long p0, .int p1] (fun U => U.heap.size = sz ∧ va_P (dC, dI) vwCl (rw_W o c kc st lg ai al) U.heap ∧ va_K (dC, dI) vwCl (rw_T kc) U ∧ va_D (fun _ => True) (rw_W o c kc st lg ai al))) (va_Qi (fun r (u : Int32) => r = u) (fun u t => ∃ (x3 : Int32) (x4 : Int32) (x5 : Int32) (x6 : Int32) (x12 : Int32) (x13 : Int32) (x15 : Int32) (x16 : Int32) (x17 : Int32) (x21 : Int32) (x22 : Int32) (x24 : Int32) (x26 : Int32) (y23 : Int64) (y27 : Int64) (f0 : Nat → Int32) (f14 : Nat → Int32) (f19 : Nat → Int32) (f20 : Nat → Int32) (f25 : Nat → Int32) (g18 : Nat → Int64), (0 ≤ x3.toInt) ∧ (x3.toInt ≤ 1) ∧ (0 ≤ x6.toInt) ∧ (x6.toInt ≤ 1) ∧ (0 ≤ x12.toInt) ∧ (x12.toInt ≤ 8) ∧ (0 ≤ x15.toInt) ∧ (x15.toInt ≤ 128) ∧ (0 ≤ x16.toInt) ∧ (x16.toInt ≤ 128) ∧ (0 ≤ x17.toInt) ∧ (x17.toInt ≤ 1) ∧ (-1 ≤ x21.toInt) ∧ (x21.toInt ≤ 127) ∧ (0 ≤ x22.toInt) ∧ (x22.toInt ≤ 1000000) ∧ (0 ≤ x24.toInt) ∧ (x24.toInt ≤ 1) ∧ (0 ≤ x26.toInt) ∧ (x26.toInt ≤ 2000000) ∧ (aR f25 130 (0) 127) ∧ va_P (dC, dI) vwCl (rw_W o c kc (rU (rU (rU (rU (rU (rU (rU (rU (rU (rU (rU (rU (rU st 3 x3) 4 x4) 5 x5) 6 x6) 12 x12) 13 x13) 15 x15) 16 x16) 17 x17) 21 x21) 22 x22) 24 x24) 26 x26) (rU (rU lg 23 y23) 27 y27) (rU (rU (rU (rU (rU ai 0 f0) 14 f14) 19 f19) 20 f20) 25 f25) (rU al 18 g18)) t.heap) (va_A (rw_W o c kc st lg ai al) sz)) 0 0 (va_A (rw_W o c kc st lg ai al) sz) := by
  refine Met.ofW (cc := cX9_certify) (maxL := 7) (ret := (some .int)) (by decide) rfl ?_
  intro p e s m args below meth cM s₁ B hml hv
  obtain ⟨rfl, hsz, hP, hK, hD0⟩ := hv
  have hx := B.exec
  have hb := B.bytes
  have hr := B.returns
  have hts := atoms_spec (ws := wsX9_certify) B.pre
  have hown : s.vm.findClass RX9 = some m.cls := findClass_of_methodNamed B.named
  subst hsz
  have hD := hD0.self (sz := s.heap.size)
  generalize hAe : va_A (rw_W o c kc st lg ai al) s.heap.size = A at hD ⊢
  have hA : ∀ q : Nat, s.heap.size ≤ q → A q := fun q h => by rw [← hAe]; exact Or.inr h
  have hS : va_S A s.heap s.heap [] := va_S.rf
  clear hAe hD0
  have hl := lv_entry ([.ref o, .long p0, .int p1]) (n := 7) (Nat.le_of_ble_eq_true rfl)
  rw [lg_entry_eq]
  generalize (lg_sl ([.ref o, .long p0, .int p1]) ++ List.replicate (7 - (lg_sl ([.ref o, .long p0, .int p1])).length) Slot.unset).toArray = ls at hl ⊢
  have hl : lv_has ls 7 [(0, .ref o), (1, .long p0), (3, .int p1)] := hl
  have z_m9 : (-9 : Int32).toInt = -9 := by decide
  have z_m8 : (-8 : Int32).toInt = -8 := by decide
  have z_m6 : (-6 : Int32).toInt = -6 := by decide
  have z_m4 : (-4 : Int32).toInt = -4 := by decide
  have z_m3 : (-3 : Int32).toInt = -3 := by decide
  have z_m2 : (-2 : Int32).toInt = -2 := by decide
  have z_m1 : (-1 : Int32).toInt = -1 := by decide
  have z_0 : (0 : Int32).toInt = 0 := by decide
  have z_1 : (1 : Int32).toInt = 1 := by decide
  have z_2 : (2 : Int32).toInt = 2 := by decide
  have z_3 : (3 : Int32).toInt = 3 := by decide
  have z_4 : (4 : Int32).toInt = 4 := by decide
  have z_15 : (15 : Int32).toInt = 15 := by decide
  have z_32 : (32 : Int32).toInt = 32 := by decide
  have z_128 : (128 : Int32).toInt = 128 := by decide
  have hin9 : ∀ w ∈ u_ws RX9 TX9 38, w ∈ wsX9_certify := by decide +kernel
  have main : ∀ (H : Heap) (locs : List Loc), va_P (dC, dI) vwCl (rw_W o c kc st lg ai al) H → va_S A s.heap H locs → W p l e (headSpec wsX9_certify ({ frames := 7, cells := 0, slots := 0, locals := 159 })).room s m ([.ref o, .long p0, .int p1] : List Value).toArray below meth cM H locs 0 0 (MQ below (va_Qi (fun r (u : Int32) => r = u) (fun u t => ∃ (x3 : Int32) (x4 : Int32) (x5 : Int32) (x6 : Int32) (x12 : Int32) (x13 : Int32) (x15 : Int32) (x16 : Int32) (x17 : Int32) (x21 : Int32) (x22 : Int32) (x24 : Int32) (x26 : Int32) (y23 : Int64) (y27 : Int64) (f0 : Nat → Int32) (f14 : Nat → Int32) (f19 : Nat → Int32) (f20 : Nat → Int32) (f25 : Nat → Int32) (g18 : Nat → Int64), (0 ≤ x3.toInt) ∧ (x3.toInt ≤ 1) ∧ (0 ≤ x6.toInt) ∧ (x6.toInt ≤ 1) ∧ (0 ≤ x12.toInt) ∧ (x12.toInt ≤ 8) ∧ (0 ≤ x15.toInt) ∧ (x15.toInt ≤ 128) ∧ (0 ≤ x16.toInt) ∧ (x16.toInt ≤ 128) ∧ (0 ≤ x17.toInt) ∧ (x17.toInt ≤ 1) ∧ (-1 ≤ x21.toInt) ∧ (x21.toInt ≤ 127) ∧ (0 ≤ x22.toInt) ∧ (x22.toInt ≤ 1000000) ∧ (0 ≤ x24.toInt) ∧ (x24.toInt ≤ 1) ∧ (0 ≤ x26.toInt) ∧ (x26.toInt ≤ 2000000) ∧ (aR f25 130 (0) 127) ∧ va_P (dC, dI) vwCl (rw_W o c kc (rU (rU (rU (rU (rU (rU (rU (rU (rU (rU (rU (rU (rU st 3 x3) 4 x4) 5 x5) 6 x6) 12 x12) 13 x13) 15 x15) 16 x16) 17 x17) 21 x21) 22 x22) 24 x24) 26 x26) (rU (rU lg 23 y23) 27 y27) (rU (rU (rU (rU (rU ai 0 f0) 14 f14) 19 f19) 20 f20) 25 f25) (rU al 18 g18)) t.heap) A) ([.ref o, .long p0, .int p1] : List Value).toArray s 0 0 A) (F0 m 0 ls []) := by
    intro H locs hP hS
    refine lv_aload_n hx hb dX9_certify_0 rfl (lv_at hl 0 rfl) ?_
    have join1 : ∀ (jt_1 : Int32) (H : Heap) (locs : List Loc) (ls : Array Slot), (0 ≤ jt_1.toInt) → (jt_1.toInt ≤ 2) → va_P (dC, dI) vwCl (rw_W o c kc st lg ai al) H → va_S A s.heap H locs → lv_has ls 7 [(0, .ref o), (1, .long p0), (3, .int p1)] → W p l e (headSpec wsX9_certify ({ frames := 7, cells := 0, slots := 0, locals := 159 })).room s m ([.ref o, .long p0, .int p1] : List Value).toArray below meth cM H locs 0 0 (MQ below (va_Qi (fun r (u : Int32) => r = u) (fun u t => ∃ (x3 : Int32) (x4 : Int32) (x5 : Int32) (x6 : Int32) (x12 : Int32) (x13 : Int32) (x15 : Int32) (x16 : Int32) (x17 : Int32) (x21 : Int32) (x22 : Int32) (x24 : Int32) (x26 : Int32) (y23 : Int64) (y27 : Int64) (f0 : Nat → Int32) (f14 : Nat → Int32) (f19 : Nat → Int32) (f20 : Nat → Int32) (f25 : Nat → Int32) (g18 : Nat → Int64), (0 ≤ x3.toInt) ∧ (x3.toInt ≤ 1) ∧ (0 ≤ x6.toInt) ∧ (x6.toInt ≤ 1) ∧ (0 ≤ x12.toInt) ∧ (x12.toInt ≤ 8) ∧ (0 ≤ x15.toInt) ∧ (x15.toInt ≤ 128) ∧ (0 ≤ x16.toInt) ∧ (x16.toInt ≤ 128) ∧ (0 ≤ x17.toInt) ∧ (x17.toInt ≤ 1) ∧ (-1 ≤ x21.toInt) ∧ (x21.toInt ≤ 127) ∧ (0 ≤ x22.toInt) ∧ (x22.toInt ≤ 1000000) ∧ (0 ≤ x24.toInt) ∧ (x24.toInt ≤ 1) ∧ (0 ≤ x26.toInt) ∧ (x26.toInt ≤ 2000000) ∧ (aR f25 130 (0) 127) ∧ va_P (dC, dI) vwCl (rw_W o c kc (rU (rU (rU (rU (rU (rU (rU (rU (rU (rU (rU (rU (rU st 3 x3) 4 x4) 5 x5) 6 x6) 12 x12) 13 x13) 15 x15) 16 x16) 17 x17) 21 x21) 22 x22) 24 x24) 26 x26) (rU (rU lg 23 y23) 27 y27) (rU (rU (rU (rU (rU ai 0 f0) 14 f14) 19 f19) 20 f20) 25 f25) (rU al 18 g18)) t.heap) A) ([.ref o, .long p0, .int p1] : List Value).toArray s 0 0 A) (F0 m 27 ls [.int jt_1, .ref o]) := by
      intro jt_1 H locs ls ij0_1 ij1_1 hP hS hl
      refine va_put (D := (dC, dI)) (ci := 11) (v := .int jt_1) (ty := .int) (C := RX9) (T := TX9) (N := 38) hx hb hts hin9 tyX9 tyX9_ok nmX9 hown hK hP (rw_D hD) hS 0 rfl rfl 13 (by decide) (hts (.fieldLink RX9 91 "BlockLogModel" "thrown" "I") (by decide +kernel)) (fun _ h9 => h9) rfl (by decide +kernel) rfl rfl (Nat.le_of_ble_eq_true rfl) dX9_certify_27 (fun H locs hP _ hS => ?_)
      have hP : va_P (dC, dI) vwCl (rw_W o c kc (rU st 13 jt_1) lg ai al) H := hP
      refine lv_aload_n hx hb dX9_certify_30 rfl (lv_at hl 0 rfl) ?_
      refine va_get (D := (dC, dI)) (ci := 11) (v := .int jt_1) (C := RX9) (T := TX9) (N := 38) hx hb hts hin9 hown hK hP 0 rfl rfl 13 (by decide) (hts (.fieldLink RX9 91 "BlockLogModel" "thrown" "I") (by decide +kernel)) (fun _ h9 => h9) rfl dX9_certify_31 ?_
      refine lv_if_le (tgt := 39) hx hb dX9_certify_34 (by decide) (fun c_1 => ?_) (fun c_1 => ?_)
      · skip
        have ic_1 := iv_le c_1
        refine lv_aload_n hx hb dX9_certify_39 rfl (lv_at hl 0 rfl) ?_
        have hFc := vfree (rw_D hD : va_D A (rw_W o c kc (rU st 13 jt_1) lg ai al)) hS hA
        refine va_callv (va_runV (As := []) (rest := []) ⟨hx, hb, hml, hown, hts⟩ (v_X9_read l dC dI o c kc (rU st 13 jt_1) lg ai al  _ (show 0 ≤ (st 7).toInt by omega) (show (st 7).toInt ≤ 1 by omega) (show 0 ≤ (st 15).toInt by omega) (show (st 15).toInt ≤ 128 by omega) (show 0 ≤ (st 16).toInt by omega) (show (st 16).toInt ≤ 128 by omega) (show 0 ≤ (st 17).toInt by omega) (show (st 17).toInt ≤ 1 by omega) (show -1 ≤ (st 21).toInt by omega) (show (st 21).toInt ≤ 127 by omega) (show 0 ≤ (st 22).toInt by omega) (show (st 22).toInt ≤ 1000000 by omega) (show 0 ≤ (st 24).toInt by omega) (show (st 24).toInt ≤ 1 by omega) (show 0 ≤ (st 26).toInt by omega) (show (st 26).toInt ≤ 2000000 by omega) (show aR (ai 25) 130 (0) 127 from hR25)) (cwV 0 hts gX9_certify_X9_read rfl rfl rfl (by decide +kernel) ⟨Nat.le_of_ble_eq_true rfl, Nat.le_of_ble_eq_true rfl⟩) ⟨fun a U g mk q => by obtain ⟨q0, q1, qP, qK, qD⟩ := q; exact ⟨q0, q1, qP, va_K.moved (u := U) (U := U.calling g mk a) (Vm.Alike.refl U.vm) qK, qD⟩, va_recv hK hP (ci := 11) (q := (RX9, TX9, 38)) rfl (q0 := 0) rfl, fun U hU hW => ⟨rfl, by rw [hU], by rw [hU]; exact hP, va_K.moved hW.alike hK, rw_D (hD.weaken (fun _ _ _ _ => trivial))⟩⟩ rfl rfl hl.1 rfl (lv_room (Nat.le_of_ble_eq_true rfl)) dX9_certify_40 ⟨Nat.le_of_ble_eq_true rfl, Nat.le_of_ble_eq_true rfl⟩) hS (fun q _ h => hFc q h) hFc (fun ur_2 t H1 locs ht hvm er_2 hB hz1 hk1 hS => ?_)
        obtain ⟨x16_2, x17_2, x21_2, x22_2, x24_2, x26_2, y23_2, y27_2, f19_2, f20_2, f25_2, g18_2, k_3, k_4, k_5, k_6, k_7, k_8, k_9, k_10, k_11, k_12, k_13, k_14, k_15, k_16, k_17, k_18, k_19, hR25, hG, hC, hV, hBs, hP1⟩ := hB
        rw [ht] at hP1
        clear hFc hz1 hk1 hvm hP
        subst ht
        have hP := hP1
        clear hP1
        generalize t.heap = H at hP hS ⊢
        have hP : va_P (dC, dI) vwCl (rw_W o c kc (rU (rU (rU (rU (rU (rU (rU st 13 jt_1) 16 x16_2) 17 x17_2) 21 x21_2) 22 x22_2) 24 x24_2) 26 x26_2) (rU (rU lg 23 y23_2) 27 y27_2) (rU (rU (rU ai 19 f19_2) 20 f20_2) 25 f25_2) (rU al 18 g18_2)) H := hP
        have k_3 : x16_2.toInt = (st 15).toInt := k_3
        have k_4 : 0 ≤ x26_2.toInt - x22_2.toInt := k_4
        have k_5 : x26_2.toInt - x22_2.toInt ≤ 128 := k_5
        have k_6 : (x21_2.toInt = -1 ∨ (rK (ai 0) (st 7) x21_2).toInt = 1) := k_6
        have k_7 : x21_2.toInt < x16_2.toInt := k_7
        have k_8 : 0 ≤ x16_2.toInt := k_8
        have k_9 : x16_2.toInt ≤ 128 := k_9
        have k_10 : 0 ≤ x17_2.toInt := k_10
        have k_11 : x17_2.toInt ≤ 1 := k_11
        have k_12 : -1 ≤ x21_2.toInt := k_12
        have k_13 : x21_2.toInt ≤ 127 := k_13
        have k_14 : 0 ≤ x22_2.toInt := k_14
        have k_15 : x22_2.toInt ≤ 1000000 := k_15
        have k_16 : 0 ≤ x24_2.toInt := k_16
        have k_17 : x24_2.toInt ≤ 1 := k_17
        have k_18 : 0 ≤ x26_2.toInt := k_18
        have k_19 : x26_2.toInt ≤ 2000000 := k_19
        have hR25 : aR f25_2 130 (0) 127 := hR25
        have hG : gOK (ai 0) (st 7) x16_2 f19_2 := hG
        have hC : cOK (ai 0) (st 7) x16_2 f20_2 := hC
        have hV : vOK (ai 0) (st 7) x16_2 f25_2 (x26_2.toInt - x22_2.toInt) := hV
        have hBs : bOK (ai 0) (st 7) x16_2 x24_2 := hBs
        refine lv_aload_n hx hb dX9_certify_43 rfl (lv_at hl 0 rfl) ?_
        refine va_get (D := (dC, dI)) (ci := 11) (v := .int x17_2) (C := RX9) (T := TX9) (N := 38) hx hb hts hin9 hown hK hP 0 rfl rfl 17 (by decide) (hts (.fieldLink RX9 176 "BlockLogModel" "needs" "Z") (by decide +kernel)) (fun _ h9 => h9) rfl dX9_certify_44 ?_
        refine lv_if_eq (tgt := 53) hx hb dX9_certify_47 (by decide) (fun c_20 => ?_) (fun c_20 => ?_)
        · skip
          have ic_20 := iv_eq c_20
          refine lv_aload_n hx hb dX9_certify_53 rfl (lv_at hl 0 rfl) ?_
          refine lv_aload_n hx hb dX9_certify_54 rfl (lv_at hl 0 rfl) ?_
          refine lv_lload_n hx hb dX9_certify_55 rfl (lv_at hl 1 rfl) ?_
          refine vp_callSl (va_Run.run (va_runV (As := [.long p0]) (rest := [.ref o]) ⟨hx, hb, hml, hown, hts⟩ (v_X9_meant l dC dI o c kc (rU (rU (rU (rU (rU (rU (rU st 13 jt_1) 16 x16_2) 17 x17_2) 21 x21_2) 22 x22_2) 24 x24_2) 26 x26_2) (rU (rU lg 23 y23_2) 27 y27_2) (rU (rU (rU ai 19 f19_2) 20 f20_2) 25 f25_2) (rU al 18 g18_2) p0 (show 0 ≤ x16_2.toInt by omega) (show x16_2.toInt ≤ 128 by omega)) (cwV 1 hts gX9_certify_X9_meant rfl rfl rfl (by decide +kernel) ⟨Nat.le_of_ble_eq_true rfl, Nat.le_of_ble_eq_true rfl⟩) ⟨fun a U g mk q => by obtain ⟨q0, qP, qK⟩ := q; exact ⟨q0, qP, va_K.moved (u := U) (U := U.calling g mk a) (Vm.Alike.refl U.vm) qK⟩, va_recv hK hP (ci := 11) (q := (RX9, TX9, 38)) rfl (q0 := 0) rfl, fun U hU hW => ⟨rfl, by rw [hU]; exact hP, va_K.moved hW.alike hK⟩⟩ rfl rfl hl.1 rfl (lv_room (Nat.le_of_ble_eq_true rfl)) dX9_certify_56 ⟨Nat.le_of_ble_eq_true rfl, Nat.le_of_ble_eq_true rfl⟩)) (fun r_21 er_21 => ?_)
          refine lv_aload_n hx hb dX9_certify_59 rfl (lv_at hl 0 rfl) ?_
          refine va_get (D := (dC, dI)) (ci := 11) (v := .int x16_2) (C := RX9) (T := TX9) (N := 38) hx hb hts hin9 hown hK hP 0 rfl rfl 16 (by decide) (hts (.fieldLink RX9 167 "BlockLogModel" "many" "I") (by decide +kernel)) (fun _ h9 => h9) rfl dX9_certify_60 ?_
          refine vp_callSi (va_Run.run (va_runV (As := [.long r_21, .int x16_2]) (rest := []) ⟨hx, hb, hml, hown, hts⟩ (v_X9_blockRow l dC dI o c kc (rU (rU (rU (rU (rU (rU (rU st 13 jt_1) 16 x16_2) 17 x17_2) 21 x21_2) 22 x22_2) 24 x24_2) 26 x26_2) (rU (rU lg 23 y23_2) 27 y27_2) (rU (rU (rU ai 19 f19_2) 20 f20_2) 25 f25_2) (rU al 18 g18_2) r_21 x16_2 (show 0 ≤ (st 7).toInt by omega) (show (st 7).toInt ≤ 1 by omega) (by omega) (by omega) (show cOK (ai 0) (st 7) x16_2 f20_2 from (by assumption))) (cwV 2 hts gX9_certify_X9_blockRow rfl rfl rfl (by decide +kernel) ⟨Nat.le_of_ble_eq_true rfl, Nat.le_of_ble_eq_true rfl⟩) ⟨fun a U g mk q => by obtain ⟨q0, qP, qK⟩ := q; exact ⟨q0, qP, va_K.moved (u := U) (U := U.calling g mk a) (Vm.Alike.refl U.vm) qK⟩, va_recv hK hP (ci := 11) (q := (RX9, TX9, 38)) rfl (q0 := 0) rfl, fun U hU hW => ⟨rfl, by rw [hU]; exact hP, va_K.moved hW.alike hK⟩⟩ rfl rfl hl.1 rfl (lv_room (Nat.le_of_ble_eq_true rfl)) dX9_certify_63 ⟨Nat.le_of_ble_eq_true rfl, Nat.le_of_ble_eq_true rfl⟩)) (fun r_22 er_22 => ?_)
          obtain ⟨k_23, k_24, hbk⟩ := er_22
          have hbk : r_22.toInt ≠ -1 → okB (ai 0) (st 7) x16_2 r_22 := hbk
          refine lv_istore (lv' := [(4, .int r_22), (0, .ref o), (1, .long p0), (3, .int p1)]) hx hb dX9_certify_66 hl (by decide) rfl (fun ls hl => ?_)
          refine lv_iload hx hb dX9_certify_68 (lv_at hl 0 rfl) ?_
          refine lv_iconst (v := (-1)) hx hb dX9_certify_70 (by decide) ?_
          refine lv_icmp_ne (tgt := 77) hx hb dX9_certify_71 (by decide) (fun c_25 => ?_) (fun c_25 => ?_)
          · skip
            have ic_25 := iv_ne c_25
            refine lv_iload_n hx hb dX9_certify_77 rfl (lv_at hl 3 rfl) ?_
            refine lv_iconst (v := 1) hx hb dX9_certify_78 (by decide) ?_
            refine lv_iand hx hb dX9_certify_79 ?_
            refine lv_topi (fun v_26 ev_26 => ?_)
            clear ev_26
            refine lv_iload_n hx hb dX9_certify_80 rfl (lv_at hl 3 rfl) ?_
            refine lv_iconst (v := 1) hx hb dX9_certify_81 (by decide) ?_
            refine lv_ishr hx hb dX9_certify_82 ?_
            refine lv_topi (fun v_27 ev_27 => ?_)
            clear ev_27
            refine lv_iconst (v := 1) hx hb dX9_certify_83 (by decide) ?_
            refine lv_iand hx hb dX9_certify_84 ?_
            refine lv_topi (fun v_28 ev_28 => ?_)
            clear ev_28
            refine lv_iadd hx hb dX9_certify_85 ?_
            refine lv_topi (fun v_29 ev_29 => ?_)
            clear ev_29
            refine lv_iload_n hx hb dX9_certify_86 rfl (lv_at hl 3 rfl) ?_
            refine lv_iconst (v := 2) hx hb dX9_certify_87 (by decide) ?_
            refine lv_ishr hx hb dX9_certify_88 ?_
            refine lv_topi (fun v_30 ev_30 => ?_)
            have hv_30 : v_30.toInt = p1.toInt / 4 := by rw [ev_30]; exact iv_shr2 _
            clear ev_30
            refine lv_iconst (v := 1) hx hb dX9_certify_89 (by decide) ?_
            refine lv_iand hx hb dX9_certify_90 ?_
            refine lv_topi (fun v_31 ev_31 => ?_)
            clear ev_31
            refine lv_iadd hx hb dX9_certify_91 ?_
            refine lv_topi (fun v_32 ev_32 => ?_)
            clear ev_32
            refine lv_iload_n hx hb dX9_certify_92 rfl (lv_at hl 3 rfl) ?_
            refine lv_iconst (v := 3) hx hb dX9_certify_93 (by decide) ?_
            refine lv_ishr hx hb dX9_certify_94 ?_
            refine lv_topi (fun v_33 ev_33 => ?_)
            clear ev_33
            refine lv_iconst (v := 1) hx hb dX9_certify_95 (by decide) ?_
            refine lv_iand hx hb dX9_certify_96 ?_
            refine lv_topi (fun v_34 ev_34 => ?_)
            clear ev_34
            refine lv_iadd hx hb dX9_certify_97 ?_
            refine lv_topi (fun v_35 ev_35 => ?_)
            clear ev_35
            refine lv_istore (lv' := [(5, .int v_35), (4, .int r_22), (0, .ref o), (1, .long p0), (3, .int p1)]) hx hb dX9_certify_98 hl (by decide) rfl (fun ls hl => ?_)
            refine lv_iload hx hb dX9_certify_100 (lv_at hl 0 rfl) ?_
            refine lv_iconst (v := 3) hx hb dX9_certify_102 (by decide) ?_
            refine lv_icmp_ge (tgt := 109) hx hb dX9_certify_103 (by decide) (fun c_36 => ?_) (fun c_36 => ?_)
            · skip
              have ic_36 := iv_le c_36
              refine lv_aload_n hx hb dX9_certify_109 rfl (lv_at hl 2 rfl) ?_
              refine va_get (D := (dC, dI)) (ci := 11) (v := .int x22_2) (C := RX9) (T := TX9) (N := 38) hx hb hts hin9 hown hK hP 0 rfl rfl 22 (by decide) (hts (.fieldLink RX9 182 "BlockLogModel" "baseHeight" "I") (by decide +kernel)) (fun _ h9 => h9) rfl dX9_certify_110 ?_
              refine lv_iconst (v := 1) hx hb dX9_certify_113 (by decide) ?_
              refine lv_iadd hx hb dX9_certify_114 ?_
              refine lv_topi (fun v_37 ev_37 => ?_)
              have rg1 := iv_rng x22_2
              have hv_37 : v_37.toInt = x22_2.toInt + 1 := by rw [ev_37]; exact (iv_add (by omega) (by omega)).trans (by omega)
              clear ev_37
              refine lv_istore (lv' := [(6, .int v_37), (5, .int v_35), (4, .int r_22), (0, .ref o), (1, .long p0), (3, .int p1)]) hx hb dX9_certify_115 hl (by decide) rfl (fun ls hl => ?_)
              have loop117 : ∀ (n : Nat) (l6_117 : Int32) (H : Heap) (locs : List Loc) (ls : Array Slot), (x22_2.toInt + 1 ≤ l6_117.toInt) → (l6_117.toInt ≤ x26_2.toInt + 1) → (x26_2.toInt + 1 - l6_117.toInt : Int).toNat < n → va_P (dC, dI) vwCl (rw_W o c kc (rU (rU (rU (rU (rU (rU (rU st 13 jt_1) 16 x16_2) 17 x17_2) 21 x21_2) 22 x22_2) 24 x24_2) 26 x26_2) (rU (rU lg 23 y23_2) 27 y27_2) (rU (rU (rU ai 19 f19_2) 20 f20_2) 25 f25_2) (rU al 18 g18_2)) H → va_S A s.heap H locs → lv_has ls 7 [(6, .int l6_117), (5, .int v_35), (4, .int r_22), (0, .ref o), (1, .long p0), (3, .int p1)] → W p l e (headSpec wsX9_certify ({ frames := 7, cells := 0, slots := 0, locals := 159 })).room s m ([.ref o, .long p0, .int p1] : List Value).toArray below meth cM H locs 0 0 (MQ below (va_Qi (fun r (u : Int32) => r = u) (fun u t => ∃ (x3 : Int32) (x4 : Int32) (x5 : Int32) (x6 : Int32) (x12 : Int32) (x13 : Int32) (x15 : Int32) (x16 : Int32) (x17 : Int32) (x21 : Int32) (x22 : Int32) (x24 : Int32) (x26 : Int32) (y23 : Int64) (y27 : Int64) (f0 : Nat → Int32) (f14 : Nat → Int32) (f19 : Nat → Int32) (f20 : Nat → Int32) (f25 : Nat → Int32) (g18 : Nat → Int64), (0 ≤ x3.toInt) ∧ (x3.toInt ≤ 1) ∧ (0 ≤ x6.toInt) ∧ (x6.toInt ≤ 1) ∧ (0 ≤ x12.toInt) ∧ (x12.toInt ≤ 8) ∧ (0 ≤ x15.toInt) ∧ (x15.toInt ≤ 128) ∧ (0 ≤ x16.toInt) ∧ (x16.toInt ≤ 128) ∧ (0 ≤ x17.toInt) ∧ (x17.toInt ≤ 1) ∧ (-1 ≤ x21.toInt) ∧ (x21.toInt ≤ 127) ∧ (0 ≤ x22.toInt) ∧ (x22.toInt ≤ 1000000) ∧ (0 ≤ x24.toInt) ∧ (x24.toInt ≤ 1) ∧ (0 ≤ x26.toInt) ∧ (x26.toInt ≤ 2000000) ∧ (aR f25 130 (0) 127) ∧ va_P (dC, dI) vwCl (rw_W o c kc (rU (rU (rU (rU (rU (rU (rU (rU (rU (rU (rU (rU (rU st 3 x3) 4 x4) 5 x5) 6 x6) 12 x12) 13 x13) 15 x15) 16 x16) 17 x17) 21 x21) 22 x22) 24 x24) 26 x26) (rU (rU lg 23 y23) 27 y27) (rU (rU (rU (rU (rU ai 0 f0) 14 f14) 19 f19) 20 f20) 25 f25) (rU al 18 g18)) t.heap) A) ([.ref o, .long p0, .int p1] : List Value).toArray s 0 0 A) (F0 m 117 ls []) := by
                intro n
                induction n with
                | zero => intro l6_117 H locs ls if0_117 if1_117 hm; exact absurd hm (Nat.not_lt_zero _)
                | succ n ih117 =>
                  intro l6_117 H locs ls if0_117 if1_117 hm117 hP hS hl
                  refine lv_iload hx hb dX9_certify_117 (lv_at hl 0 rfl) ?_
                  refine lv_aload_n hx hb dX9_certify_119 rfl (lv_at hl 3 rfl) ?_
                  refine va_get (D := (dC, dI)) (ci := 11) (v := .int x26_2) (C := RX9) (T := TX9) (N := 38) hx hb hts hin9 hown hK hP 0 rfl rfl 26 (by decide) (hts (.fieldLink RX9 192 "BlockLogModel" "lastVersion" "I") (by decide +kernel)) (fun _ h9 => h9) rfl dX9_certify_120 ?_
                  refine lv_icmp_gt (tgt := 152) hx hb dX9_certify_123 (by decide) (fun c_38 => ?_) (fun c_38 => ?_)
                  · skip
                    have ic_38 := iv_lt c_38
                    refine lv_aload_n hx hb dX9_certify_152 rfl (lv_at hl 3 rfl) ?_
                    refine lv_iload hx hb dX9_certify_153 (lv_at hl 2 rfl) ?_
                    refine vp_callSi (va_Run.run (va_runV (As := [.int r_22]) (rest := []) ⟨hx, hb, hml, hown, hts⟩ (v_X9_isNext l dC dI o c kc (rU (rU (rU (rU (rU (rU (rU st 13 jt_1) 16 x16_2) 17 x17_2) 21 x21_2) 22 x22_2) 24 x24_2) 26 x26_2) (rU (rU lg 23 y23_2) 27 y27_2) (rU (rU (rU ai 19 f19_2) 20 f20_2) 25 f25_2) (rU al 18 g18_2) r_22 (show 0 ≤ (st 7).toInt by omega) (show (st 7).toInt ≤ 1 by omega) (show 0 ≤ x26_2.toInt by omega) (show x26_2.toInt ≤ 2000000 by omega) (by omega) (by omega)) (cwV 1 hts gX9_certify_X9_isNext rfl rfl rfl (by decide +kernel) ⟨Nat.le_of_ble_eq_true rfl, Nat.le_of_ble_eq_true rfl⟩) ⟨fun a U g mk q => by obtain ⟨q0, qP, qK⟩ := q; exact ⟨q0, qP, va_K.moved (u := U) (U := U.calling g mk a) (Vm.Alike.refl U.vm) qK⟩, va_recv hK hP (ci := 11) (q := (RX9, TX9, 38)) rfl (q0 := 0) rfl, fun U hU hW => ⟨rfl, by rw [hU]; exact hP, va_K.moved hW.alike hK⟩⟩ rfl rfl hl.1 rfl (lv_room (Nat.le_of_ble_eq_true rfl)) dX9_certify_155 ⟨Nat.le_of_ble_eq_true rfl, Nat.le_of_ble_eq_true rfl⟩)) (fun r_39 er_39 => ?_)
                    obtain ⟨k_40, k_41, k_42⟩ := er_39
                    have k_40 : (r_39.toInt = 1 → (rA (ai 0) (st 7) r_22).toInt = x26_2.toInt + 1) := k_40
                    rcases iv_01 (a := r_39) (by omega) (by omega) with b_43 | b_43
                    · skip
                      have ib_43 := iv_eq b_43
                      rw [b_43]
                      refine lv_if_ne (tgt := 164) hx hb dX9_certify_158 (by decide) (fun c_44 => ?_) (fun c_44 => ?_)
                      · skip
                        have ic_44 := iv_ne c_44
                        exfalso
                        omega
                      · skip
                        have ic_44 := iv_eq c_44
                        refine lv_bipush (v := (-9)) hx hb dX9_certify_161 (by decide) ?_
                        exact W.iret hx hb hr (fun t ht hW => ⟨⟨_, _, rfl, rfl, st 3, st 4, st 5, st 6, st 12, jt_1, st 15, x16_2, x17_2, x21_2, x22_2, x24_2, x26_2, y23_2, y27_2, ai 0, ai 14, f19_2, f20_2, f25_2, g18_2, (by omega), (by omega), (by omega), (by omega), (by omega), (by omega), (by omega), (by omega), (by omega), (by omega), (by omega), (by omega), (by omega), (by omega), (by omega), (by omega), (by omega), (by omega), (by omega), (by omega), hR25, by rw [ht]; exact hP⟩, hS.F ht⟩) hS.2.2 dX9_certify_163
                    · skip
                      have ib_43 := iv_eq b_43
                      rw [b_43]
                      refine lv_if_ne (tgt := 164) hx hb dX9_certify_158 (by decide) (fun c_45 => ?_) (fun c_45 => ?_)
                      · skip
                        have ic_45 := iv_ne c_45
                        refine lv_aload_n hx hb dX9_certify_164 rfl (lv_at hl 3 rfl) ?_
                        refine va_get (D := (dC, dI)) (ci := 11) (v := .int x16_2) (C := RX9) (T := TX9) (N := 38) hx hb hts hin9 hown hK hP 0 rfl rfl 16 (by decide) (hts (.fieldLink RX9 167 "BlockLogModel" "many" "I") (by decide +kernel)) (fun _ h9 => h9) rfl dX9_certify_165 ?_
                        refine lv_sipush (v := 128) hx hb dX9_certify_168 (by decide) ?_
                        refine lv_icmp_ne (tgt := 177) hx hb dX9_certify_171 (by decide) (fun c_46 => ?_) (fun c_46 => ?_)
                        · skip
                          have ic_46 := iv_ne c_46
                          refine lv_aload_n hx hb dX9_certify_177 rfl (lv_at hl 3 rfl) ?_
                          refine lv_iload hx hb dX9_certify_178 (lv_at hl 2 rfl) ?_
                          refine vp_callSi (va_Run.run (va_runV (As := [.int r_22]) (rest := []) ⟨hx, hb, hml, hown, hts⟩ (v_X9_aOf l dC dI o c kc (rU (rU (rU (rU (rU (rU (rU st 13 jt_1) 16 x16_2) 17 x17_2) 21 x21_2) 22 x22_2) 24 x24_2) 26 x26_2) (rU (rU lg 23 y23_2) 27 y27_2) (rU (rU (rU ai 19 f19_2) 20 f20_2) 25 f25_2) (rU al 18 g18_2) r_22 (show 0 ≤ (st 7).toInt by omega) (show (st 7).toInt ≤ 1 by omega) (by omega) (by omega)) (cwV 1 hts gX9_certify_X9_aOf rfl rfl rfl (by decide +kernel) ⟨Nat.le_of_ble_eq_true rfl, Nat.le_of_ble_eq_true rfl⟩) ⟨fun a U g mk q => by obtain ⟨q0, qP, qK⟩ := q; exact ⟨q0, qP, va_K.moved (u := U) (U := U.calling g mk a) (Vm.Alike.refl U.vm) qK⟩, va_recv hK hP (ci := 11) (q := (RX9, TX9, 38)) rfl (q0 := 0) rfl, fun U hU hW => ⟨rfl, by rw [hU]; exact hP, va_K.moved hW.alike hK⟩⟩ rfl rfl hl.1 rfl (lv_room (Nat.le_of_ble_eq_true rfl)) dX9_certify_180 ⟨Nat.le_of_ble_eq_true rfl, Nat.le_of_ble_eq_true rfl⟩)) (fun r_47 er_47 => ?_)
                          have k_48 := er_47
                          have k_48 : r_47.toInt = (rA (ai 0) (st 7) r_22).toInt := k_48
                          refine lv_istore (lv' := [(6, .int r_47), (5, .int v_35), (4, .int r_22), (0, .ref o), (1, .long p0), (3, .int p1)]) hx hb dX9_certify_183 hl (by decide) rfl (fun ls hl => ?_)
                          refine lv_aload_n hx hb dX9_certify_185 rfl (lv_at hl 3 rfl) ?_
                          refine lv_iconst (v := 4) hx hb dX9_certify_186 (by decide) ?_
                          refine lv_iload hx hb dX9_certify_187 (lv_at hl 0 rfl) ?_
                          refine lv_iload_n hx hb dX9_certify_189 rfl (lv_at hl 5 rfl) ?_
                          refine lv_aload_n hx hb dX9_certify_190 rfl (lv_at hl 3 rfl) ?_
                          refine va_get (D := (dC, dI)) (ci := 11) (v := .ref (c 18)) (C := RX9) (T := TX9) (N := 38) hx hb hts hin9 hown hK hP 0 rfl rfl 18 (by decide) (hts (.fieldLink RX9 27 "BlockLogModel" "digestAt" "[J") (by decide +kernel)) (fun _ h9 => h9) rfl dX9_certify_191 ?_
                          refine lv_iload hx hb dX9_certify_194 (lv_at hl 2 rfl) ?_
                          refine va_lald (f := g18_2) hx hb hK hP 6 5 rfl rfl (iv_in (i := r_22) (by omega) (by omega)) dX9_certify_196 ?_
                          refine lv_topl (fun w_49 ew_49 => ?_)
                          clear ew_49
                          have hFc := vfree (rw_D hD : va_D A (rw_W o c kc (rU (rU (rU (rU (rU (rU (rU st 13 jt_1) 16 x16_2) 17 x17_2) 21 x21_2) 22 x22_2) 24 x24_2) 26 x26_2) (rU (rU lg 23 y23_2) 27 y27_2) (rU (rU (rU ai 19 f19_2) 20 f20_2) 25 f25_2) (rU al 18 g18_2))) hS hA
                          refine va_callv (va_runV (As := [.int (4 : Int32), .int r_47, .int p1, .long w_49]) (rest := []) ⟨hx, hb, hml, hown, hts⟩ (v_X9_layRow l dC dI o c kc (rU (rU (rU (rU (rU (rU (rU st 13 jt_1) 16 x16_2) 17 x17_2) 21 x21_2) 22 x22_2) 24 x24_2) 26 x26_2) (rU (rU lg 23 y23_2) 27 y27_2) (rU (rU (rU ai 19 f19_2) 20 f20_2) 25 f25_2) (rU al 18 g18_2) (4 : Int32) r_47 p1 w_49 _ ) (cwV 4 hts gX9_certify_X9_layRow rfl rfl rfl (by decide +kernel) ⟨Nat.le_of_ble_eq_true rfl, Nat.le_of_ble_eq_true rfl⟩) ⟨fun a U g mk q => by obtain ⟨q0, q1, qP, qK, qD⟩ := q; exact ⟨q0, q1, qP, va_K.moved (u := U) (U := U.calling g mk a) (Vm.Alike.refl U.vm) qK, qD⟩, va_recv hK hP (ci := 11) (q := (RX9, TX9, 38)) rfl (q0 := 0) rfl, fun U hU hW => ⟨rfl, by rw [hU], by rw [hU]; exact hP, va_K.moved hW.alike hK, rw_D (hD.weaken (fun _ _ _ _ => trivial))⟩⟩ rfl rfl hl.1 rfl (lv_room (Nat.le_of_ble_eq_true rfl)) dX9_certify_197 ⟨Nat.le_of_ble_eq_true rfl, Nat.le_of_ble_eq_true rfl⟩) hS (fun q _ h => hFc q h) hFc (fun ur_50 t H1 locs ht hvm er_50 hB hz1 hk1 hS => ?_)
                          obtain ⟨f14_50, hP1⟩ := hB
                          rw [ht] at hP1
                          clear hFc hz1 hk1 hvm hP
                          subst ht
                          have hP := hP1
                          clear hP1
                          generalize t.heap = H at hP hS ⊢
                          have hP : va_P (dC, dI) vwCl (rw_W o c kc (rU (rU (rU (rU (rU (rU (rU st 13 jt_1) 16 x16_2) 17 x17_2) 21 x21_2) 22 x22_2) 24 x24_2) 26 x26_2) (rU (rU lg 23 y23_2) 27 y27_2) (rU (rU (rU (rU ai 14 f14_50) 19 f19_2) 20 f20_2) 25 f25_2) (rU al 18 g18_2)) H := hP
                          refine lv_aload_n hx hb dX9_certify_200 rfl (lv_at hl 3 rfl) ?_
                          refine lv_aload_n hx hb dX9_certify_201 rfl (lv_at hl 3 rfl) ?_
                          refine lv_aload_n hx hb dX9_certify_202 rfl (lv_at hl 3 rfl) ?_
                          refine va_get (D := (dC, dI)) (ci := 11) (v := .int (st 7)) (C := RX9) (T := TX9) (N := 38) hx hb hts hin9 hown hK hP 0 rfl rfl 7 (by decide) (hts (.fieldLink RX9 76 "BlockLogModel" "area" "I") (by decide +kernel)) (fun _ h9 => h9) rfl dX9_certify_203 ?_
                          refine lv_aload_n hx hb dX9_certify_206 rfl (lv_at hl 3 rfl) ?_
                          refine va_get (D := (dC, dI)) (ci := 11) (v := .int x16_2) (C := RX9) (T := TX9) (N := 38) hx hb hts hin9 hown hK hP 0 rfl rfl 16 (by decide) (hts (.fieldLink RX9 167 "BlockLogModel" "many" "I") (by decide +kernel)) (fun _ h9 => h9) rfl dX9_certify_207 ?_
                          refine vp_callSi (va_Run.run (va_runV (As := [.int (st 7), .int x16_2]) (rest := [.ref o]) ⟨hx, hb, hml, hown, hts⟩ (v_X9_rowPlace l dC dI o c kc (rU (rU (rU (rU (rU (rU (rU st 13 jt_1) 16 x16_2) 17 x17_2) 21 x21_2) 22 x22_2) 24 x24_2) 26 x26_2) (rU (rU lg 23 y23_2) 27 y27_2) (rU (rU (rU (rU ai 14 f14_50) 19 f19_2) 20 f20_2) 25 f25_2) (rU al 18 g18_2) (st 7) x16_2 (by omega) (by omega) (by omega) (by omega)) (cwV 2 hts gX9_certify_X9_rowPlace rfl rfl rfl (by decide +kernel) ⟨Nat.le_of_ble_eq_true rfl, Nat.le_of_ble_eq_true rfl⟩) ⟨fun a U g mk q => by obtain ⟨q0, qP, qK⟩ := q; exact ⟨q0, qP, va_K.moved (u := U) (U := U.calling g mk a) (Vm.Alike.refl U.vm) qK⟩, va_recv hK hP (ci := 11) (q := (RX9, TX9, 38)) rfl (q0 := 0) rfl, fun U hU hW => ⟨rfl, by rw [hU]; exact hP, va_K.moved hW.alike hK⟩⟩ rfl rfl hl.1 rfl (lv_room (Nat.le_of_ble_eq_true rfl)) dX9_certify_210 ⟨Nat.le_of_ble_eq_true rfl, Nat.le_of_ble_eq_true rfl⟩)) (fun r_51 er_51 => ?_)
                          have k_52 := er_51
                          refine lv_bipush (v := 32) hx hb dX9_certify_213 (by decide) ?_
                          have hFc := vfree (rw_D hD : va_D A (rw_W o c kc (rU (rU (rU (rU (rU (rU (rU st 13 jt_1) 16 x16_2) 17 x17_2) 21 x21_2) 22 x22_2) 24 x24_2) 26 x26_2) (rU (rU lg 23 y23_2) 27 y27_2) (rU (rU (rU (rU ai 14 f14_50) 19 f19_2) 20 f20_2) 25 f25_2) (rU al 18 g18_2))) hS hA
                          refine va_callv (va_runV (As := [.int r_51, .int (32 : Int32)]) (rest := []) ⟨hx, hb, hml, hown, hts⟩ (v_X9_writeFresh l dC dI o c kc (rU (rU (rU (rU (rU (rU (rU st 13 jt_1) 16 x16_2) 17 x17_2) 21 x21_2) 22 x22_2) 24 x24_2) 26 x26_2) (rU (rU lg 23 y23_2) 27 y27_2) (rU (rU (rU (rU ai 14 f14_50) 19 f19_2) 20 f20_2) 25 f25_2) (rU al 18 g18_2) r_51 (32 : Int32) _ (show 0 ≤ (st 3).toInt by omega) (show (st 3).toInt ≤ 1 by omega) (show 0 ≤ (st 6).toInt by omega) (show (st 6).toInt ≤ 1 by omega) (show 0 ≤ (st 12).toInt by omega) (show (st 12).toInt ≤ 8 by omega) (by omega) (by omega) (by omega) (by omega)) (cwV 2 hts gX9_certify_X9_writeFresh rfl rfl rfl (by decide +kernel) ⟨Nat.le_of_ble_eq_true rfl, Nat.le_of_ble_eq_true rfl⟩) ⟨fun a U g mk q => by obtain ⟨q0, q1, qP, qK, qD⟩ := q; exact ⟨q0, q1, qP, va_K.moved (u := U) (U := U.calling g mk a) (Vm.Alike.refl U.vm) qK, qD⟩, va_recv hK hP (ci := 11) (q := (RX9, TX9, 38)) rfl (q0 := 0) rfl, fun U hU hW => ⟨rfl, by rw [hU], by rw [hU]; exact hP, va_K.moved hW.alike hK, rw_D (hD.weaken (fun _ _ _ _ => trivial))⟩⟩ rfl rfl hl.1 rfl (lv_room (Nat.le_of_ble_eq_true rfl)) dX9_certify_215 ⟨Nat.le_of_ble_eq_true rfl, Nat.le_of_ble_eq_true rfl⟩) hS (fun q _ h => hFc q h) hFc (fun ur_53 t H1 locs ht hvm er_53 hB hz1 hk1 hS => ?_)
                          obtain ⟨x3_53, x4_53, x5_53, x6_53, x12_53, f0_53, k_54, k_55, k_56, k_57, k_58, k_59, hP1⟩ := hB
                          rw [ht] at hP1
                          clear hFc hz1 hk1 hvm hP
                          subst ht
                          have hP := hP1
                          clear hP1
                          generalize t.heap = H at hP hS ⊢
                          have hP : va_P (dC, dI) vwCl (rw_W o c kc (rU (rU (rU (rU (rU (rU (rU (rU (rU (rU (rU (rU st 3 x3_53) 4 x4_53) 5 x5_53) 6 x6_53) 12 x12_53) 13 jt_1) 16 x16_2) 17 x17_2) 21 x21_2) 22 x22_2) 24 x24_2) 26 x26_2) (rU (rU lg 23 y23_2) 27 y27_2) (rU (rU (rU (rU (rU ai 0 f0_53) 14 f14_50) 19 f19_2) 20 f20_2) 25 f25_2) (rU al 18 g18_2)) H := hP
                          have k_54 : 0 ≤ x3_53.toInt := k_54
                          have k_55 : x3_53.toInt ≤ 1 := k_55
                          have k_56 : 0 ≤ x6_53.toInt := k_56
                          have k_57 : x6_53.toInt ≤ 1 := k_57
                          have k_58 : 0 ≤ x12_53.toInt := k_58
                          have k_59 : x12_53.toInt ≤ 8 := k_59
                          refine lv_aload_n hx hb dX9_certify_218 rfl (lv_at hl 3 rfl) ?_
                          refine lv_dup hx hb dX9_certify_219 rfl ?_
                          refine va_get (D := (dC, dI)) (ci := 11) (v := .int (st 15)) (C := RX9) (T := TX9) (N := 38) hx hb hts hin9 hown hK hP 0 rfl rfl 15 (by decide) (hts (.fieldLink RX9 157 "BlockLogModel" "rowsNow" "I") (by decide +kernel)) (fun _ h9 => h9) rfl dX9_certify_220 ?_
                          refine lv_iconst (v := 1) hx hb dX9_certify_223 (by decide) ?_
                          refine lv_iadd hx hb dX9_certify_224 ?_
                          refine lv_topi (fun v_60 ev_60 => ?_)
                          have rg2 := iv_rng (st 15)
                          have hv_60 : v_60.toInt = (st 15).toInt + 1 := by rw [ev_60]; exact (iv_add (by omega) (by omega)).trans (by omega)
                          clear ev_60
                          refine va_put (D := (dC, dI)) (ci := 11) (v := .int v_60) (ty := .int) (C := RX9) (T := TX9) (N := 38) hx hb hts hin9 tyX9 tyX9_ok nmX9 hown hK hP (rw_D hD) hS 0 rfl rfl 15 (by decide) (hts (.fieldLink RX9 157 "BlockLogModel" "rowsNow" "I") (by decide +kernel)) (fun _ h9 => h9) rfl (by decide +kernel) rfl rfl (Nat.le_of_ble_eq_true rfl) dX9_certify_225 (fun H locs hP _ hS => ?_)
                          have hP : va_P (dC, dI) vwCl (rw_W o c kc (rU (rU (rU (rU (rU (rU (rU (rU (rU (rU (rU (rU (rU st 3 x3_53) 4 x4_53) 5 x5_53) 6 x6_53) 12 x12_53) 13 jt_1) 15 v_60) 16 x16_2) 17 x17_2) 21 x21_2) 22 x22_2) 24 x24_2) 26 x26_2) (rU (rU lg 23 y23_2) 27 y27_2) (rU (rU (rU (rU (rU ai 0 f0_53) 14 f14_50) 19 f19_2) 20 f20_2) 25 f25_2) (rU al 18 g18_2)) H := hP
                          refine lv_aload_n hx hb dX9_certify_228 rfl (lv_at hl 3 rfl) ?_
                          refine va_get (D := (dC, dI)) (ci := 11) (v := .int x6_53) (C := RX9) (T := TX9) (N := 38) hx hb hts hin9 hown hK hP 0 rfl rfl 6 (by decide) (hts (.fieldLink RX9 108 "BlockLogModel" "dark" "Z") (by decide +kernel)) (fun _ h9 => h9) rfl dX9_certify_229 ?_
                          refine lv_if_eq (tgt := 240) hx hb dX9_certify_232 (by decide) (fun c_61 => ?_) (fun c_61 => ?_)
                          · skip
                            have ic_61 := iv_eq c_61
                            refine lv_iload hx hb dX9_certify_240 (lv_at hl 0 rfl) ?_
                            exact W.iret hx hb hr (fun t ht hW => ⟨⟨_, _, rfl, rfl, x3_53, x4_53, x5_53, x6_53, x12_53, jt_1, v_60, x16_2, x17_2, x21_2, x22_2, x24_2, x26_2, y23_2, y27_2, f0_53, f14_50, f19_2, f20_2, f25_2, g18_2, (by omega), (by omega), (by omega), (by omega), (by omega), (by omega), (by omega), (by omega), (by omega), (by omega), (by omega), (by omega), (by omega), (by omega), (by omega), (by omega), (by omega), (by omega), (by omega), (by omega), hR25, by rw [ht]; exact hP⟩, hS.F ht⟩) hS.2.2 dX9_certify_242
                          · skip
                            have ic_61 := iv_ne c_61
                            refine lv_bipush (v := (-4)) hx hb dX9_certify_235 (by decide) ?_
                            refine lv_goto (tgt := 242) hx hb dX9_certify_237 (by decide) ?_
                            exact W.iret hx hb hr (fun t ht hW => ⟨⟨_, _, rfl, rfl, x3_53, x4_53, x5_53, x6_53, x12_53, jt_1, v_60, x16_2, x17_2, x21_2, x22_2, x24_2, x26_2, y23_2, y27_2, f0_53, f14_50, f19_2, f20_2, f25_2, g18_2, (by omega), (by omega), (by omega), (by omega), (by omega), (by omega), (by omega), (by omega), (by omega), (by omega), (by omega), (by omega), (by omega), (by omega), (by omega), (by omega), (by omega), (by omega), (by omega), (by omega), hR25, by rw [ht]; exact hP⟩, hS.F ht⟩) hS.2.2 dX9_certify_242
                        · skip
                          have ic_46 := iv_eq c_46
                          refine lv_bipush (v := (-2)) hx hb dX9_certify_174 (by decide) ?_
                          exact W.iret hx hb hr (fun t ht hW => ⟨⟨_, _, rfl, rfl, st 3, st 4, st 5, st 6, st 12, jt_1, st 15, x16_2, x17_2, x21_2, x22_2, x24_2, x26_2, y23_2, y27_2, ai 0, ai 14, f19_2, f20_2, f25_2, g18_2, (by omega), (by omega), (by omega), (by omega), (by omega), (by omega), (by omega), (by omega), (by omega), (by omega), (by omega), (by omega), (by omega), (by omega), (by omega), (by omega), (by omega), (by omega), (by omega), (by omega), hR25, by rw [ht]; exact hP⟩, hS.F ht⟩) hS.2.2 dX9_certify_176
                      · skip
                        have ic_45 := iv_eq c_45
                        exfalso
                        omega
                  · skip
                    have ic_38 := iv_nlt c_38
                    refine lv_aload_n hx hb dX9_certify_126 rfl (lv_at hl 3 rfl) ?_
                    refine va_get (D := (dC, dI)) (ci := 11) (v := .ref (c 25)) (C := RX9) (T := TX9) (N := 38) hx hb hts hin9 hown hK hP 0 rfl rfl 25 (by decide) (hts (.fieldLink RX9 37 "BlockLogModel" "versionRow" "[I") (by decide +kernel)) (fun _ h9 => h9) rfl dX9_certify_127 ?_
                    refine lv_iload hx hb dX9_certify_130 (lv_at hl 0 rfl) ?_
                    refine lv_aload_n hx hb dX9_certify_132 rfl (lv_at hl 3 rfl) ?_
                    refine va_get (D := (dC, dI)) (ci := 11) (v := .int x22_2) (C := RX9) (T := TX9) (N := 38) hx hb hts hin9 hown hK hP 0 rfl rfl 22 (by decide) (hts (.fieldLink RX9 182 "BlockLogModel" "baseHeight" "I") (by decide +kernel)) (fun _ h9 => h9) rfl dX9_certify_133 ?_
                    refine lv_isub hx hb dX9_certify_136 ?_
                    refine lv_topi (fun v_62 ev_62 => ?_)
                    have rg3 := iv_rng l6_117
                    have hv_62 : v_62.toInt = l6_117.toInt - x22_2.toInt := by rw [ev_62]; exact (iv_sub (by omega) (by omega)).trans (by omega)
                    clear ev_62
                    refine va_iald (f := f25_2) hx hb hK hP 9 8 rfl rfl (iv_in (i := v_62) (by omega) (by omega)) dX9_certify_137 ?_
                    refine lv_topi (fun v_63 ev_63 => ?_)
                    have k_64 : 0 ≤ v_63.toInt ∧ v_63.toInt ≤ 127 := aR_get hR25 (by omega) (by omega) ev_63
                    have hX_versionRow := ev_63
                    clear ev_63
                    refine lv_iload hx hb dX9_certify_138 (lv_at hl 2 rfl) ?_
                    refine lv_icmp_ne (tgt := 146) hx hb dX9_certify_140 (by decide) (fun c_65 => ?_) (fun c_65 => ?_)
                    · skip
                      have ic_65 := iv_ne c_65
                      obtain ⟨x_66, ex_66⟩ : ∃ z : Int32, z = l6_117 + (1) := ⟨_, rfl⟩
                      refine lv_iinc (v := x_66) (lv' := [(6, .int x_66), (5, .int v_35), (4, .int r_22), (0, .ref o), (1, .long p0), (3, .int p1)]) hx hb dX9_certify_146 hl (k := 0) rfl (by rw [ex_66]; rfl) (by decide) rfl (fun ls hl => ?_)
                      have hx_66 : x_66.toInt = l6_117.toInt + (1) := by rw [ex_66]; exact (iv_add (by omega) (by omega)).trans (by omega)
                      clear ex_66
                      refine lv_goto (tgt := 117) hx hb dX9_certify_149 (by decide) ?_
                      exact ih117 x_66 _ _ _ (by omega) (by omega) (by omega) hP hS (lv_sub hl [0, 1, 2, 3, 4, 5] rfl)
                    · skip
                      have ic_65 := iv_eq c_65
                      refine lv_iload hx hb dX9_certify_143 (lv_at hl 0 rfl) ?_
                      exact W.iret hx hb hr (fun t ht hW => ⟨⟨_, _, rfl, rfl, st 3, st 4, st 5, st 6, st 12, jt_1, st 15, x16_2, x17_2, x21_2, x22_2, x24_2, x26_2, y23_2, y27_2, ai 0, ai 14, f19_2, f20_2, f25_2, g18_2, (by omega), (by omega), (by omega), (by omega), (by omega), (by omega), (by omega), (by omega), (by omega), (by omega), (by omega), (by omega), (by omega), (by omega), (by omega), (by omega), (by omega), (by omega), (by omega), (by omega), hR25, by rw [ht]; exact hP⟩, hS.F ht⟩) hS.2.2 dX9_certify_145
              exact loop117 ((x26_2.toInt + 1 - v_37.toInt : Int).toNat + 1) v_37 _ _ _ (by omega) (by omega) (by omega) hP hS (lv_sub hl [0, 1, 2, 3, 4, 5] rfl)
            · skip
              have ic_36 := iv_nle c_36
              refine lv_bipush (v := (-8)) hx hb dX9_certify_106 (by decide) ?_
              exact W.iret hx hb hr (fun t ht hW => ⟨⟨_, _, rfl, rfl, st 3, st 4, st 5, st 6, st 12, jt_1, st 15, x16_2, x17_2, x21_2, x22_2, x24_2, x26_2, y23_2, y27_2, ai 0, ai 14, f19_2, f20_2, f25_2, g18_2, (by omega), (by omega), (by omega), (by omega), (by omega), (by omega), (by omega), (by omega), (by omega), (by omega), (by omega), (by omega), (by omega), (by omega), (by omega), (by omega), (by omega), (by omega), (by omega), (by omega), hR25, by rw [ht]; exact hP⟩, hS.F ht⟩) hS.2.2 dX9_certify_108
          · skip
            have ic_25 := iv_eq c_25
            refine lv_bipush (v := (-6)) hx hb dX9_certify_74 (by decide) ?_
            exact W.iret hx hb hr (fun t ht hW => ⟨⟨_, _, rfl, rfl, st 3, st 4, st 5, st 6, st 12, jt_1, st 15, x16_2, x17_2, x21_2, x22_2, x24_2, x26_2, y23_2, y27_2, ai 0, ai 14, f19_2, f20_2, f25_2, g18_2, (by omega), (by omega), (by omega), (by omega), (by omega), (by omega), (by omega), (by omega), (by omega), (by omega), (by omega), (by omega), (by omega), (by omega), (by omega), (by omega), (by omega), (by omega), (by omega), (by omega), hR25, by rw [ht]; exact hP⟩, hS.F ht⟩) hS.2.2 dX9_certify_76
        · skip
          have ic_20 := iv_ne c_20
          refine lv_bipush (v := (-3)) hx hb dX9_certify_50 (by decide) ?_
          exact W.iret hx hb hr (fun t ht hW => ⟨⟨_, _, rfl, rfl, st 3, st 4, st 5, st 6, st 12, jt_1, st 15, x16_2, x17_2, x21_2, x22_2, x24_2, x26_2, y23_2, y27_2, ai 0, ai 14, f19_2, f20_2, f25_2, g18_2, (by omega), (by omega), (by omega), (by omega), (by omega), (by omega), (by omega), (by omega), (by omega), (by omega), (by omega), (by omega), (by omega), (by omega), (by omega), (by omega), (by omega), (by omega), (by omega), (by omega), hR25, by rw [ht]; exact hP⟩, hS.F ht⟩) hS.2.2 dX9_certify_52
      · skip
        have ic_1 := iv_nle c_1
        refine lv_iconst (v := 0) hx hb dX9_certify_37 (by decide) ?_
        exact W.iret hx hb hr (fun t ht hW => ⟨⟨_, _, rfl, rfl, st 3, st 4, st 5, st 6, st 12, jt_1, st 15, st 16, st 17, st 21, st 22, st 24, st 26, lg 23, lg 27, ai 0, ai 14, ai 19, ai 20, ai 25, al 18, (by omega), (by omega), (by omega), (by omega), (by omega), (by omega), (by omega), (by omega), (by omega), (by omega), (by omega), (by omega), (by omega), (by omega), (by omega), (by omega), (by omega), (by omega), (by omega), (by omega), hR25, by rw [ht]; exact hP⟩, hS.F ht⟩) hS.2.2 dX9_certify_38
    refine lv_aload_n hx hb dX9_certify_1 rfl (lv_at hl 0 rfl) ?_
    refine va_get (D := (dC, dI)) (ci := 11) (v := .int (st 3)) (C := RX9) (T := TX9) (N := 38) hx hb hts hin9 hown hK hP 0 rfl rfl 3 (by decide) (hts (.fieldLink RX9 72 "BlockLogModel" "on" "Z") (by decide +kernel)) (fun _ h9 => h9) rfl dX9_certify_2 ?_
    refine lv_if_ne (tgt := 12) hx hb dX9_certify_5 (by decide) (fun c_67 => ?_) (fun c_67 => ?_)
    · skip
      have ic_67 := iv_ne c_67
      refine lv_iload_n hx hb dX9_certify_12 rfl (lv_at hl 2 rfl) ?_
      refine lv_iconst (v := 0) hx hb dX9_certify_13 (by decide) ?_
      refine lv_bipush (v := 15) hx hb dX9_certify_14 (by decide) ?_
      refine vp_callSi (va_Run.run (va_runS (As := [.int p1, .int (0 : Int32), .int (15 : Int32)]) (rest := [.ref o]) ⟨hx, hb, hml, hown, hts⟩ (v_X9_within l dC dI p1 (0 : Int32) (15 : Int32) ) (va_cwS 3 hts gX9_certify_X9_within rfl rfl rfl (by decide +kernel) ⟨Nat.le_of_ble_eq_true rfl, Nat.le_of_ble_eq_true rfl⟩) ⟨fun a U g mk q => q, fun U hU hW => ⟨rfl, trivial⟩⟩ rfl rfl hl.1 rfl (lv_room (Nat.le_of_ble_eq_true rfl)) dX9_certify_16 ⟨Nat.le_of_ble_eq_true rfl, Nat.le_of_ble_eq_true rfl⟩)) (fun r_68 er_68 => ?_)
      obtain ⟨k_69, k_70, k_71, k_72, k_73⟩ := er_68
      rcases iv_01 (a := r_68) (by omega) (by omega) with b_74 | b_74
      · skip
        have ib_74 := iv_eq b_74
        rw [b_74]
        refine lv_if_ne (tgt := 26) hx hb dX9_certify_19 (by decide) (fun c_75 => ?_) (fun c_75 => ?_)
        · skip
          have ic_75 := iv_ne c_75
          exfalso
          omega
        · skip
          have ic_75 := iv_eq c_75
          refine lv_iconst (v := 2) hx hb dX9_certify_22 (by decide) ?_
          refine lv_goto (tgt := 27) hx hb dX9_certify_23 (by decide) ?_
          exact join1 (2 : Int32) _ _ _ (by omega) (by omega) hP hS (lv_sub hl [0, 1, 2] rfl)
      · skip
        have ib_74 := iv_eq b_74
        rw [b_74]
        refine lv_if_ne (tgt := 26) hx hb dX9_certify_19 (by decide) (fun c_76 => ?_) (fun c_76 => ?_)
        · skip
          have ic_76 := iv_ne c_76
          refine lv_iconst (v := 0) hx hb dX9_certify_26 (by decide) ?_
          exact join1 (0 : Int32) _ _ _ (by omega) (by omega) hP hS (lv_sub hl [0, 1, 2] rfl)
        · skip
          have ic_76 := iv_eq c_76
          exfalso
          omega
    · skip
      have ic_67 := iv_eq c_67
      refine lv_iconst (v := 1) hx hb dX9_certify_8 (by decide) ?_
      refine lv_goto (tgt := 27) hx hb dX9_certify_9 (by decide) ?_
      exact join1 (1 : Int32) _ _ _ (by omega) (by omega) hP hS (lv_sub hl [0, 1, 2] rfl)
  exact main s.heap [] hP hS

set_option maxHeartbeats 4000000 in
set_option maxRecDepth 100000 in
theorem v_X9_version (l : Launch) (dC : Nat → ClassId) (dI : Nat → Nat → Nat) (o : Nat) (c : Nat → Nat) (kc : Nat → ClassId) (st : Nat → Int32) (lg : Nat → Int64) (ai : Nat → Nat → Int32) (al : Nat → Nat → Int64) (p0 : Int32) (sz : Nat) (hf3a : 0 ≤ (st 3).toInt) (hf3b : (st 3).toInt ≤ 1) (hf7a : 0 ≤ (st 7).toInt) (hf7b : (st 7).toInt ≤ 1) (hf15a : 0 ≤ (st 15).toInt) (hf15b : (st 15).toInt ≤ 128) (hf16a : 0 ≤ (st 16).toInt) (hf16b : (st 16).toInt ≤ 128) (hf17a : 0 ≤ (st 17).toInt) (hf17b : (st 17).toInt ≤ 1) (hf21a : -1 ≤ (st 21).toInt) (hf21b : (st 21).toInt ≤ 127) (hf22a : 0 ≤ (st 22).toInt) (hf22b : (st 22).toInt ≤ 1000000) (hf24a : 0 ≤ (st 24).toInt) (hf24b : (st 24).toInt ≤ 1) (hf26a : 0 ≤ (st 26).toInt) (hf26b : (st 26).toInt ≤ 2000000) (hR25 : aR (ai 25) 130 (0) 127) : Met l yX9_version wsX9_version ({ frames := 7, cells := 0, slots := 0, locals := 159 }) (va_Pc [.ref o, .int p0] (fun U => U.heap.size = sz ∧ va_P (dC, dI) vwCl (rw_W o c kc st lg ai al) U.heap ∧ va_K (dC, dI) vwCl (rw_T kc) U ∧ va_D (fun _ => True) (rw_W o c kc st lg ai al))) (va_Qi (fun r (u : Int32) => r = u) (fun u t => ∃ (x13 : Int32) (x16 : Int32) (x17 : Int32) (x21 : Int32) (x22 : Int32) (x24 : Int32) (x26 : Int32) (y23 : Int64) (y27 : Int64) (f19 : Nat → Int32) (f20 : Nat → Int32) (f25 : Nat → Int32) (g18 : Nat → Int64), (0 ≤ x16.toInt) ∧ (x16.toInt ≤ 128) ∧ (0 ≤ x17.toInt) ∧ (x17.toInt ≤ 1) ∧ (-1 ≤ x21.toInt) ∧ (x21.toInt ≤ 127) ∧ (0 ≤ x22.toInt) ∧ (x22.toInt ≤ 1000000) ∧ (0 ≤ x24.toInt) ∧ (x24.toInt ≤ 1) ∧ (0 ≤ x26.toInt) ∧ (x26.toInt ≤ 2000000) ∧ (aR f25 130 (0) 127) ∧ va_P (dC, dI) vwCl (rw_W o c kc (rU (rU (rU (rU (rU (rU (rU st 13 x13) 16 x16) 17 x17) 21 x21) 22 x22) 24 x24) 26 x26) (rU (rU lg 23 y23) 27 y27) (rU (rU (rU ai 19 f19) 20 f20) 25 f25) (rU al 18 g18)) t.heap) (va_A (rw_W o c kc st lg ai al) sz)) 0 0 (va_A (rw_W o c kc st lg ai al) sz) := by
  refine Met.ofW (cc := cX9_version) (maxL := 2) (ret := (some .int)) (by decide) rfl ?_
  intro p e s m args below meth cM s₁ B hml hv
  obtain ⟨rfl, hsz, hP, hK, hD0⟩ := hv
  have hx := B.exec
  have hb := B.bytes
  have hr := B.returns
  have hts := atoms_spec (ws := wsX9_version) B.pre
  have hown : s.vm.findClass RX9 = some m.cls := findClass_of_methodNamed B.named
  subst hsz
  have hD := hD0.self (sz := s.heap.size)
  generalize hAe : va_A (rw_W o c kc st lg ai al) s.heap.size = A at hD ⊢
  have hA : ∀ q : Nat, s.heap.size ≤ q → A q := fun q h => by rw [← hAe]; exact Or.inr h
  have hS : va_S A s.heap s.heap [] := va_S.rf
  clear hAe hD0
  have hl := lv_entry ([.ref o, .int p0]) (n := 2) (Nat.le_of_ble_eq_true rfl)
  rw [lg_entry_eq]
  generalize (lg_sl ([.ref o, .int p0]) ++ List.replicate (2 - (lg_sl ([.ref o, .int p0])).length) Slot.unset).toArray = ls at hl ⊢
  have hl : lv_has ls 2 [(0, .ref o), (1, .int p0)] := hl
  have z_0 : (0 : Int32).toInt = 0 := by decide
  have z_1 : (1 : Int32).toInt = 1 := by decide
  have z_2 : (2 : Int32).toInt = 2 := by decide
  have hin9 : ∀ w ∈ u_ws RX9 TX9 38, w ∈ wsX9_version := by decide +kernel
  have main : ∀ (H : Heap) (locs : List Loc), va_P (dC, dI) vwCl (rw_W o c kc st lg ai al) H → va_S A s.heap H locs → W p l e (headSpec wsX9_version ({ frames := 7, cells := 0, slots := 0, locals := 159 })).room s m ([.ref o, .int p0] : List Value).toArray below meth cM H locs 0 0 (MQ below (va_Qi (fun r (u : Int32) => r = u) (fun u t => ∃ (x13 : Int32) (x16 : Int32) (x17 : Int32) (x21 : Int32) (x22 : Int32) (x24 : Int32) (x26 : Int32) (y23 : Int64) (y27 : Int64) (f19 : Nat → Int32) (f20 : Nat → Int32) (f25 : Nat → Int32) (g18 : Nat → Int64), (0 ≤ x16.toInt) ∧ (x16.toInt ≤ 128) ∧ (0 ≤ x17.toInt) ∧ (x17.toInt ≤ 1) ∧ (-1 ≤ x21.toInt) ∧ (x21.toInt ≤ 127) ∧ (0 ≤ x22.toInt) ∧ (x22.toInt ≤ 1000000) ∧ (0 ≤ x24.toInt) ∧ (x24.toInt ≤ 1) ∧ (0 ≤ x26.toInt) ∧ (x26.toInt ≤ 2000000) ∧ (aR f25 130 (0) 127) ∧ va_P (dC, dI) vwCl (rw_W o c kc (rU (rU (rU (rU (rU (rU (rU st 13 x13) 16 x16) 17 x17) 21 x21) 22 x22) 24 x24) 26 x26) (rU (rU lg 23 y23) 27 y27) (rU (rU (rU ai 19 f19) 20 f20) 25 f25) (rU al 18 g18)) t.heap) A) ([.ref o, .int p0] : List Value).toArray s 0 0 A) (F0 m 0 ls []) := by
    intro H locs hP hS
    refine lv_aload_n hx hb dX9_version_0 rfl (lv_at hl 0 rfl) ?_
    have join1 : ∀ (jt_1 : Int32) (H : Heap) (locs : List Loc) (ls : Array Slot), (0 ≤ jt_1.toInt) → (jt_1.toInt ≤ 2) → va_P (dC, dI) vwCl (rw_W o c kc st lg ai al) H → va_S A s.heap H locs → lv_has ls 2 [(0, .ref o), (1, .int p0)] → W p l e (headSpec wsX9_version ({ frames := 7, cells := 0, slots := 0, locals := 159 })).room s m ([.ref o, .int p0] : List Value).toArray below meth cM H locs 0 0 (MQ below (va_Qi (fun r (u : Int32) => r = u) (fun u t => ∃ (x13 : Int32) (x16 : Int32) (x17 : Int32) (x21 : Int32) (x22 : Int32) (x24 : Int32) (x26 : Int32) (y23 : Int64) (y27 : Int64) (f19 : Nat → Int32) (f20 : Nat → Int32) (f25 : Nat → Int32) (g18 : Nat → Int64), (0 ≤ x16.toInt) ∧ (x16.toInt ≤ 128) ∧ (0 ≤ x17.toInt) ∧ (x17.toInt ≤ 1) ∧ (-1 ≤ x21.toInt) ∧ (x21.toInt ≤ 127) ∧ (0 ≤ x22.toInt) ∧ (x22.toInt ≤ 1000000) ∧ (0 ≤ x24.toInt) ∧ (x24.toInt ≤ 1) ∧ (0 ≤ x26.toInt) ∧ (x26.toInt ≤ 2000000) ∧ (aR f25 130 (0) 127) ∧ va_P (dC, dI) vwCl (rw_W o c kc (rU (rU (rU (rU (rU (rU (rU st 13 x13) 16 x16) 17 x17) 21 x21) 22 x22) 24 x24) 26 x26) (rU (rU lg 23 y23) 27 y27) (rU (rU (rU ai 19 f19) 20 f20) 25 f25) (rU al 18 g18)) t.heap) A) ([.ref o, .int p0] : List Value).toArray s 0 0 A) (F0 m 26 ls [.int jt_1, .ref o]) := by
      intro jt_1 H locs ls ij0_1 ij1_1 hP hS hl
      refine va_put (D := (dC, dI)) (ci := 11) (v := .int jt_1) (ty := .int) (C := RX9) (T := TX9) (N := 38) hx hb hts hin9 tyX9 tyX9_ok nmX9 hown hK hP (rw_D hD) hS 0 rfl rfl 13 (by decide) (hts (.fieldLink RX9 91 "BlockLogModel" "thrown" "I") (by decide +kernel)) (fun _ h9 => h9) rfl (by decide +kernel) rfl rfl (Nat.le_of_ble_eq_true rfl) dX9_version_26 (fun H locs hP _ hS => ?_)
      have hP : va_P (dC, dI) vwCl (rw_W o c kc (rU st 13 jt_1) lg ai al) H := hP
      refine lv_aload_n hx hb dX9_version_29 rfl (lv_at hl 0 rfl) ?_
      refine va_get (D := (dC, dI)) (ci := 11) (v := .int jt_1) (C := RX9) (T := TX9) (N := 38) hx hb hts hin9 hown hK hP 0 rfl rfl 13 (by decide) (hts (.fieldLink RX9 91 "BlockLogModel" "thrown" "I") (by decide +kernel)) (fun _ h9 => h9) rfl dX9_version_30 ?_
      refine lv_if_le (tgt := 38) hx hb dX9_version_33 (by decide) (fun c_1 => ?_) (fun c_1 => ?_)
      · skip
        have ic_1 := iv_le c_1
        refine lv_aload_n hx hb dX9_version_38 rfl (lv_at hl 0 rfl) ?_
        have hFc := vfree (rw_D hD : va_D A (rw_W o c kc (rU st 13 jt_1) lg ai al)) hS hA
        refine va_callv (va_runV (As := []) (rest := []) ⟨hx, hb, hml, hown, hts⟩ (v_X9_read l dC dI o c kc (rU st 13 jt_1) lg ai al  _ (show 0 ≤ (st 7).toInt by omega) (show (st 7).toInt ≤ 1 by omega) (show 0 ≤ (st 15).toInt by omega) (show (st 15).toInt ≤ 128 by omega) (show 0 ≤ (st 16).toInt by omega) (show (st 16).toInt ≤ 128 by omega) (show 0 ≤ (st 17).toInt by omega) (show (st 17).toInt ≤ 1 by omega) (show -1 ≤ (st 21).toInt by omega) (show (st 21).toInt ≤ 127 by omega) (show 0 ≤ (st 22).toInt by omega) (show (st 22).toInt ≤ 1000000 by omega) (show 0 ≤ (st 24).toInt by omega) (show (st 24).toInt ≤ 1 by omega) (show 0 ≤ (st 26).toInt by omega) (show (st 26).toInt ≤ 2000000 by omega) (show aR (ai 25) 130 (0) 127 from hR25)) (cwV 0 hts gX9_version_X9_read rfl rfl rfl (by decide +kernel) ⟨Nat.le_of_ble_eq_true rfl, Nat.le_of_ble_eq_true rfl⟩) ⟨fun a U g mk q => by obtain ⟨q0, q1, qP, qK, qD⟩ := q; exact ⟨q0, q1, qP, va_K.moved (u := U) (U := U.calling g mk a) (Vm.Alike.refl U.vm) qK, qD⟩, va_recv hK hP (ci := 11) (q := (RX9, TX9, 38)) rfl (q0 := 0) rfl, fun U hU hW => ⟨rfl, by rw [hU], by rw [hU]; exact hP, va_K.moved hW.alike hK, rw_D (hD.weaken (fun _ _ _ _ => trivial))⟩⟩ rfl rfl hl.1 rfl (lv_room (Nat.le_of_ble_eq_true rfl)) dX9_version_39 ⟨Nat.le_of_ble_eq_true rfl, Nat.le_of_ble_eq_true rfl⟩) hS (fun q _ h => hFc q h) hFc (fun ur_2 t H1 locs ht hvm er_2 hB hz1 hk1 hS => ?_)
        obtain ⟨x16_2, x17_2, x21_2, x22_2, x24_2, x26_2, y23_2, y27_2, f19_2, f20_2, f25_2, g18_2, k_3, k_4, k_5, k_6, k_7, k_8, k_9, k_10, k_11, k_12, k_13, k_14, k_15, k_16, k_17, k_18, k_19, hR25, hG, hC, hV, hBs, hP1⟩ := hB
        rw [ht] at hP1
        clear hFc hz1 hk1 hvm hP
        subst ht
        have hP := hP1
        clear hP1
        generalize t.heap = H at hP hS ⊢
        have hP : va_P (dC, dI) vwCl (rw_W o c kc (rU (rU (rU (rU (rU (rU (rU st 13 jt_1) 16 x16_2) 17 x17_2) 21 x21_2) 22 x22_2) 24 x24_2) 26 x26_2) (rU (rU lg 23 y23_2) 27 y27_2) (rU (rU (rU ai 19 f19_2) 20 f20_2) 25 f25_2) (rU al 18 g18_2)) H := hP
        have k_3 : x16_2.toInt = (st 15).toInt := k_3
        have k_4 : 0 ≤ x26_2.toInt - x22_2.toInt := k_4
        have k_5 : x26_2.toInt - x22_2.toInt ≤ 128 := k_5
        have k_6 : (x21_2.toInt = -1 ∨ (rK (ai 0) (st 7) x21_2).toInt = 1) := k_6
        have k_7 : x21_2.toInt < x16_2.toInt := k_7
        have k_8 : 0 ≤ x16_2.toInt := k_8
        have k_9 : x16_2.toInt ≤ 128 := k_9
        have k_10 : 0 ≤ x17_2.toInt := k_10
        have k_11 : x17_2.toInt ≤ 1 := k_11
        have k_12 : -1 ≤ x21_2.toInt := k_12
        have k_13 : x21_2.toInt ≤ 127 := k_13
        have k_14 : 0 ≤ x22_2.toInt := k_14
        have k_15 : x22_2.toInt ≤ 1000000 := k_15
        have k_16 : 0 ≤ x24_2.toInt := k_16
        have k_17 : x24_2.toInt ≤ 1 := k_17
        have k_18 : 0 ≤ x26_2.toInt := k_18
        have k_19 : x26_2.toInt ≤ 2000000 := k_19
        have hR25 : aR f25_2 130 (0) 127 := hR25
        have hG : gOK (ai 0) (st 7) x16_2 f19_2 := hG
        have hC : cOK (ai 0) (st 7) x16_2 f20_2 := hC
        have hV : vOK (ai 0) (st 7) x16_2 f25_2 (x26_2.toInt - x22_2.toInt) := hV
        have hBs : bOK (ai 0) (st 7) x16_2 x24_2 := hBs
        refine lv_aload_n hx hb dX9_version_42 rfl (lv_at hl 0 rfl) ?_
        refine va_get (D := (dC, dI)) (ci := 11) (v := .int x17_2) (C := RX9) (T := TX9) (N := 38) hx hb hts hin9 hown hK hP 0 rfl rfl 17 (by decide) (hts (.fieldLink RX9 176 "BlockLogModel" "needs" "Z") (by decide +kernel)) (fun _ h9 => h9) rfl dX9_version_43 ?_
        refine lv_if_eq (tgt := 53) hx hb dX9_version_46 (by decide) (fun c_20 => ?_) (fun c_20 => ?_)
        · skip
          have ic_20 := iv_eq c_20
          refine lv_iload_n hx hb dX9_version_53 rfl (lv_at hl 1 rfl) ?_
          refine lv_if_ne (tgt := 64) hx hb dX9_version_54 (by decide) (fun c_21 => ?_) (fun c_21 => ?_)
          · skip
            have ic_21 := iv_ne c_21
            refine lv_aload_n hx hb dX9_version_64 rfl (lv_at hl 0 rfl) ?_
            refine va_get (D := (dC, dI)) (ci := 11) (v := .int x22_2) (C := RX9) (T := TX9) (N := 38) hx hb hts hin9 hown hK hP 0 rfl rfl 22 (by decide) (hts (.fieldLink RX9 182 "BlockLogModel" "baseHeight" "I") (by decide +kernel)) (fun _ h9 => h9) rfl dX9_version_65 ?_
            exact W.iret hx hb hr (fun t ht hW => ⟨⟨_, _, rfl, rfl, jt_1, x16_2, x17_2, x21_2, x22_2, x24_2, x26_2, y23_2, y27_2, f19_2, f20_2, f25_2, g18_2, (by omega), (by omega), (by omega), (by omega), (by omega), (by omega), (by omega), (by omega), (by omega), (by omega), (by omega), (by omega), hR25, by rw [ht]; exact hP⟩, hS.F ht⟩) hS.2.2 dX9_version_68
          · skip
            have ic_21 := iv_eq c_21
            refine lv_aload_n hx hb dX9_version_57 rfl (lv_at hl 0 rfl) ?_
            refine va_get (D := (dC, dI)) (ci := 11) (v := .int x26_2) (C := RX9) (T := TX9) (N := 38) hx hb hts hin9 hown hK hP 0 rfl rfl 26 (by decide) (hts (.fieldLink RX9 192 "BlockLogModel" "lastVersion" "I") (by decide +kernel)) (fun _ h9 => h9) rfl dX9_version_58 ?_
            refine lv_goto (tgt := 68) hx hb dX9_version_61 (by decide) ?_
            exact W.iret hx hb hr (fun t ht hW => ⟨⟨_, _, rfl, rfl, jt_1, x16_2, x17_2, x21_2, x22_2, x24_2, x26_2, y23_2, y27_2, f19_2, f20_2, f25_2, g18_2, (by omega), (by omega), (by omega), (by omega), (by omega), (by omega), (by omega), (by omega), (by omega), (by omega), (by omega), (by omega), hR25, by rw [ht]; exact hP⟩, hS.F ht⟩) hS.2.2 dX9_version_68
        · skip
          have ic_20 := iv_ne c_20
          refine lv_iconst (v := 0) hx hb dX9_version_49 (by decide) ?_
          refine lv_goto (tgt := 68) hx hb dX9_version_50 (by decide) ?_
          exact W.iret hx hb hr (fun t ht hW => ⟨⟨_, _, rfl, rfl, jt_1, x16_2, x17_2, x21_2, x22_2, x24_2, x26_2, y23_2, y27_2, f19_2, f20_2, f25_2, g18_2, (by omega), (by omega), (by omega), (by omega), (by omega), (by omega), (by omega), (by omega), (by omega), (by omega), (by omega), (by omega), hR25, by rw [ht]; exact hP⟩, hS.F ht⟩) hS.2.2 dX9_version_68
      · skip
        have ic_1 := iv_nle c_1
        refine lv_iconst (v := 0) hx hb dX9_version_36 (by decide) ?_
        exact W.iret hx hb hr (fun t ht hW => ⟨⟨_, _, rfl, rfl, jt_1, st 16, st 17, st 21, st 22, st 24, st 26, lg 23, lg 27, ai 19, ai 20, ai 25, al 18, (by omega), (by omega), (by omega), (by omega), (by omega), (by omega), (by omega), (by omega), (by omega), (by omega), (by omega), (by omega), hR25, by rw [ht]; exact hP⟩, hS.F ht⟩) hS.2.2 dX9_version_37
    refine lv_aload_n hx hb dX9_version_1 rfl (lv_at hl 0 rfl) ?_
    refine va_get (D := (dC, dI)) (ci := 11) (v := .int (st 3)) (C := RX9) (T := TX9) (N := 38) hx hb hts hin9 hown hK hP 0 rfl rfl 3 (by decide) (hts (.fieldLink RX9 72 "BlockLogModel" "on" "Z") (by decide +kernel)) (fun _ h9 => h9) rfl dX9_version_2 ?_
    refine lv_if_ne (tgt := 12) hx hb dX9_version_5 (by decide) (fun c_22 => ?_) (fun c_22 => ?_)
    · skip
      have ic_22 := iv_ne c_22
      refine lv_iload_n hx hb dX9_version_12 rfl (lv_at hl 1 rfl) ?_
      refine lv_iconst (v := 0) hx hb dX9_version_13 (by decide) ?_
      refine lv_iconst (v := 1) hx hb dX9_version_14 (by decide) ?_
      refine vp_callSi (va_Run.run (va_runS (As := [.int p0, .int (0 : Int32), .int (1 : Int32)]) (rest := [.ref o]) ⟨hx, hb, hml, hown, hts⟩ (v_X9_within l dC dI p0 (0 : Int32) (1 : Int32) ) (va_cwS 3 hts gX9_version_X9_within rfl rfl rfl (by decide +kernel) ⟨Nat.le_of_ble_eq_true rfl, Nat.le_of_ble_eq_true rfl⟩) ⟨fun a U g mk q => q, fun U hU hW => ⟨rfl, trivial⟩⟩ rfl rfl hl.1 rfl (lv_room (Nat.le_of_ble_eq_true rfl)) dX9_version_15 ⟨Nat.le_of_ble_eq_true rfl, Nat.le_of_ble_eq_true rfl⟩)) (fun r_23 er_23 => ?_)
      obtain ⟨k_24, k_25, k_26, k_27, k_28⟩ := er_23
      rcases iv_01 (a := r_23) (by omega) (by omega) with b_29 | b_29
      · skip
        have ib_29 := iv_eq b_29
        rw [b_29]
        refine lv_if_ne (tgt := 25) hx hb dX9_version_18 (by decide) (fun c_30 => ?_) (fun c_30 => ?_)
        · skip
          have ic_30 := iv_ne c_30
          exfalso
          omega
        · skip
          have ic_30 := iv_eq c_30
          refine lv_iconst (v := 2) hx hb dX9_version_21 (by decide) ?_
          refine lv_goto (tgt := 26) hx hb dX9_version_22 (by decide) ?_
          exact join1 (2 : Int32) _ _ _ (by omega) (by omega) hP hS (lv_sub hl [0, 1] rfl)
      · skip
        have ib_29 := iv_eq b_29
        rw [b_29]
        refine lv_if_ne (tgt := 25) hx hb dX9_version_18 (by decide) (fun c_31 => ?_) (fun c_31 => ?_)
        · skip
          have ic_31 := iv_ne c_31
          refine lv_iconst (v := 0) hx hb dX9_version_25 (by decide) ?_
          exact join1 (0 : Int32) _ _ _ (by omega) (by omega) hP hS (lv_sub hl [0, 1] rfl)
        · skip
          have ic_31 := iv_eq c_31
          exfalso
          omega
    · skip
      have ic_22 := iv_eq c_22
      refine lv_iconst (v := 1) hx hb dX9_version_8 (by decide) ?_
      refine lv_goto (tgt := 26) hx hb dX9_version_9 (by decide) ?_
      exact join1 (1 : Int32) _ _ _ (by omega) (by omega) hP hS (lv_sub hl [0, 1] rfl)
  exact main s.heap [] hP hS

set_option maxHeartbeats 4000000 in
set_option maxRecDepth 100000 in
theorem v_X9_slot (l : Launch) (dC : Nat → ClassId) (dI : Nat → Nat → Nat) (o : Nat) (c : Nat → Nat) (kc : Nat → ClassId) (st : Nat → Int32) (lg : Nat → Int64) (ai : Nat → Nat → Int32) (al : Nat → Nat → Int64) (p0 : Int32) (p1 : Int32) (sz : Nat) (hf3a : 0 ≤ (st 3).toInt) (hf3b : (st 3).toInt ≤ 1) (hf7a : 0 ≤ (st 7).toInt) (hf7b : (st 7).toInt ≤ 1) (hf15a : 0 ≤ (st 15).toInt) (hf15b : (st 15).toInt ≤ 128) (hf16a : 0 ≤ (st 16).toInt) (hf16b : (st 16).toInt ≤ 128) (hf17a : 0 ≤ (st 17).toInt) (hf17b : (st 17).toInt ≤ 1) (hf21a : -1 ≤ (st 21).toInt) (hf21b : (st 21).toInt ≤ 127) (hf22a : 0 ≤ (st 22).toInt) (hf22b : (st 22).toInt ≤ 1000000) (hf24a : 0 ≤ (st 24).toInt) (hf24b : (st 24).toInt ≤ 1) (hf26a : 0 ≤ (st 26).toInt) (hf26b : (st 26).toInt ≤ 2000000) (hR25 : aR (ai 25) 130 (0) 127) : Met l yX9_slot wsX9_slot ({ frames := 7, cells := 0, slots := 0, locals := 159 }) (va_Pc [.ref o, .int p0, .int p1] (fun U => U.heap.size = sz ∧ va_P (dC, dI) vwCl (rw_W o c kc st lg ai al) U.heap ∧ va_K (dC, dI) vwCl (rw_T kc) U ∧ va_D (fun _ => True) (rw_W o c kc st lg ai al))) (va_Ql (fun r (u : Int64) => r = u) (fun _ t => ∃ (x13 : Int32) (x16 : Int32) (x17 : Int32) (x21 : Int32) (x22 : Int32) (x24 : Int32) (x26 : Int32) (y23 : Int64) (y27 : Int64) (f19 : Nat → Int32) (f20 : Nat → Int32) (f25 : Nat → Int32) (g18 : Nat → Int64) (g28 : Nat → Int64), (0 ≤ x16.toInt) ∧ (x16.toInt ≤ 128) ∧ (0 ≤ x17.toInt) ∧ (x17.toInt ≤ 1) ∧ (-1 ≤ x21.toInt) ∧ (x21.toInt ≤ 127) ∧ (0 ≤ x22.toInt) ∧ (x22.toInt ≤ 1000000) ∧ (0 ≤ x24.toInt) ∧ (x24.toInt ≤ 1) ∧ (0 ≤ x26.toInt) ∧ (x26.toInt ≤ 2000000) ∧ (aR f25 130 (0) 127) ∧ va_P (dC, dI) vwCl (rw_W o c kc (rU (rU (rU (rU (rU (rU (rU st 13 x13) 16 x16) 17 x17) 21 x21) 22 x22) 24 x24) 26 x26) (rU (rU lg 23 y23) 27 y27) (rU (rU (rU ai 19 f19) 20 f20) 25 f25) (rU (rU al 18 g18) 28 g28)) t.heap) (va_A (rw_W o c kc st lg ai al) sz)) 0 0 (va_A (rw_W o c kc st lg ai al) sz) := by
  refine Met.ofW (cc := cX9_slot) (maxL := 3) (ret := (some .long)) (by decide) rfl ?_
  intro p e s m args below meth cM s₁ B hml hv
  obtain ⟨rfl, hsz, hP, hK, hD0⟩ := hv
  have hx := B.exec
  have hb := B.bytes
  have hr := B.returns
  have hts := atoms_spec (ws := wsX9_slot) B.pre
  have hown : s.vm.findClass RX9 = some m.cls := findClass_of_methodNamed B.named
  subst hsz
  have hD := hD0.self (sz := s.heap.size)
  generalize hAe : va_A (rw_W o c kc st lg ai al) s.heap.size = A at hD ⊢
  have hA : ∀ q : Nat, s.heap.size ≤ q → A q := fun q h => by rw [← hAe]; exact Or.inr h
  have hS : va_S A s.heap s.heap [] := va_S.rf
  clear hAe hD0
  have hl := lv_entry ([.ref o, .int p0, .int p1]) (n := 3) (Nat.le_of_ble_eq_true rfl)
  rw [lg_entry_eq]
  generalize (lg_sl ([.ref o, .int p0, .int p1]) ++ List.replicate (3 - (lg_sl ([.ref o, .int p0, .int p1])).length) Slot.unset).toArray = ls at hl ⊢
  have hl : lv_has ls 3 [(0, .ref o), (1, .int p0), (2, .int p1)] := hl
  have z_0 : (0 : Int32).toInt = 0 := by decide
  have z_1 : (1 : Int32).toInt = 1 := by decide
  have z_2 : (2 : Int32).toInt = 2 := by decide
  have z_15 : (15 : Int32).toInt = 15 := by decide
  have hin9 : ∀ w ∈ u_ws RX9 TX9 38, w ∈ wsX9_slot := by decide +kernel
  have main : ∀ (H : Heap) (locs : List Loc), va_P (dC, dI) vwCl (rw_W o c kc st lg ai al) H → va_S A s.heap H locs → W p l e (headSpec wsX9_slot ({ frames := 7, cells := 0, slots := 0, locals := 159 })).room s m ([.ref o, .int p0, .int p1] : List Value).toArray below meth cM H locs 0 0 (MQ below (va_Ql (fun r (u : Int64) => r = u) (fun _ t => ∃ (x13 : Int32) (x16 : Int32) (x17 : Int32) (x21 : Int32) (x22 : Int32) (x24 : Int32) (x26 : Int32) (y23 : Int64) (y27 : Int64) (f19 : Nat → Int32) (f20 : Nat → Int32) (f25 : Nat → Int32) (g18 : Nat → Int64) (g28 : Nat → Int64), (0 ≤ x16.toInt) ∧ (x16.toInt ≤ 128) ∧ (0 ≤ x17.toInt) ∧ (x17.toInt ≤ 1) ∧ (-1 ≤ x21.toInt) ∧ (x21.toInt ≤ 127) ∧ (0 ≤ x22.toInt) ∧ (x22.toInt ≤ 1000000) ∧ (0 ≤ x24.toInt) ∧ (x24.toInt ≤ 1) ∧ (0 ≤ x26.toInt) ∧ (x26.toInt ≤ 2000000) ∧ (aR f25 130 (0) 127) ∧ va_P (dC, dI) vwCl (rw_W o c kc (rU (rU (rU (rU (rU (rU (rU st 13 x13) 16 x16) 17 x17) 21 x21) 22 x22) 24 x24) 26 x26) (rU (rU lg 23 y23) 27 y27) (rU (rU (rU ai 19 f19) 20 f20) 25 f25) (rU (rU al 18 g18) 28 g28)) t.heap) A) ([.ref o, .int p0, .int p1] : List Value).toArray s 0 0 A) (F0 m 0 ls []) := by
    intro H locs hP hS
    refine lv_aload_n hx hb dX9_slot_0 rfl (lv_at hl 0 rfl) ?_
    refine lv_aload_n hx hb dX9_slot_1 rfl (lv_at hl 0 rfl) ?_
    refine va_get (D := (dC, dI)) (ci := 11) (v := .int (st 3)) (C := RX9) (T := TX9) (N := 38) hx hb hts hin9 hown hK hP 0 rfl rfl 3 (by decide) (hts (.fieldLink RX9 72 "BlockLogModel" "on" "Z") (by decide +kernel)) (fun _ h9 => h9) rfl dX9_slot_2 ?_
    refine lv_if_eq (tgt := 12) hx hb dX9_slot_5 (by decide) (fun c_1 => ?_) (fun c_1 => ?_)
    · skip
      have ic_1 := iv_eq c_1
      refine lv_iconst (v := 1) hx hb dX9_slot_12 (by decide) ?_
      refine va_put (D := (dC, dI)) (ci := 11) (v := .int (1 : Int32)) (ty := .int) (C := RX9) (T := TX9) (N := 38) hx hb hts hin9 tyX9 tyX9_ok nmX9 hown hK hP (rw_D hD) hS 0 rfl rfl 13 (by decide) (hts (.fieldLink RX9 91 "BlockLogModel" "thrown" "I") (by decide +kernel)) (fun _ h9 => h9) rfl (by decide +kernel) rfl rfl (Nat.le_of_ble_eq_true rfl) dX9_slot_13 (fun H locs hP _ hS => ?_)
      have hP : va_P (dC, dI) vwCl (rw_W o c kc (rU st 13 (1 : Int32)) lg ai al) H := hP
      refine lv_aload_n hx hb dX9_slot_16 rfl (lv_at hl 0 rfl) ?_
      refine va_get (D := (dC, dI)) (ci := 11) (v := .int (1 : Int32)) (C := RX9) (T := TX9) (N := 38) hx hb hts hin9 hown hK hP 0 rfl rfl 13 (by decide) (hts (.fieldLink RX9 91 "BlockLogModel" "thrown" "I") (by decide +kernel)) (fun _ h9 => h9) rfl dX9_slot_17 ?_
      refine lv_if_le (tgt := 25) hx hb dX9_slot_20 (by decide) (fun c_2 => ?_) (fun c_2 => ?_)
      · skip
        have ic_2 := iv_le c_2
        exfalso
        omega
      · skip
        have ic_2 := iv_nle c_2
        refine lv_lconst (v := 0) hx hb dX9_slot_23 (by decide) ?_
        exact W.lret hx hb hr (fun t ht hW => ⟨⟨_, _, rfl, rfl, (1 : Int32), st 16, st 17, st 21, st 22, st 24, st 26, lg 23, lg 27, ai 19, ai 20, ai 25, al 18, al 28, (by omega), (by omega), (by omega), (by omega), (by omega), (by omega), (by omega), (by omega), (by omega), (by omega), (by omega), (by omega), hR25, by rw [ht]; exact hP⟩, hS.F ht⟩) hS.2.2 dX9_slot_24
    · skip
      have ic_1 := iv_ne c_1
      refine lv_iconst (v := 0) hx hb dX9_slot_8 (by decide) ?_
      refine lv_goto (tgt := 13) hx hb dX9_slot_9 (by decide) ?_
      refine va_put (D := (dC, dI)) (ci := 11) (v := .int (0 : Int32)) (ty := .int) (C := RX9) (T := TX9) (N := 38) hx hb hts hin9 tyX9 tyX9_ok nmX9 hown hK hP (rw_D hD) hS 0 rfl rfl 13 (by decide) (hts (.fieldLink RX9 91 "BlockLogModel" "thrown" "I") (by decide +kernel)) (fun _ h9 => h9) rfl (by decide +kernel) rfl rfl (Nat.le_of_ble_eq_true rfl) dX9_slot_13 (fun H locs hP _ hS => ?_)
      have hP : va_P (dC, dI) vwCl (rw_W o c kc (rU st 13 (0 : Int32)) lg ai al) H := hP
      refine lv_aload_n hx hb dX9_slot_16 rfl (lv_at hl 0 rfl) ?_
      refine va_get (D := (dC, dI)) (ci := 11) (v := .int (0 : Int32)) (C := RX9) (T := TX9) (N := 38) hx hb hts hin9 hown hK hP 0 rfl rfl 13 (by decide) (hts (.fieldLink RX9 91 "BlockLogModel" "thrown" "I") (by decide +kernel)) (fun _ h9 => h9) rfl dX9_slot_17 ?_
      refine lv_if_le (tgt := 25) hx hb dX9_slot_20 (by decide) (fun c_3 => ?_) (fun c_3 => ?_)
      · skip
        have ic_3 := iv_le c_3
        refine lv_aload_n hx hb dX9_slot_25 rfl (lv_at hl 0 rfl) ?_
        have hFc := vfree (rw_D hD : va_D A (rw_W o c kc (rU st 13 (0 : Int32)) lg ai al)) hS hA
        refine va_callv (va_runV (As := []) (rest := []) ⟨hx, hb, hml, hown, hts⟩ (v_X9_read l dC dI o c kc (rU st 13 (0 : Int32)) lg ai al  _ (show 0 ≤ (st 7).toInt by omega) (show (st 7).toInt ≤ 1 by omega) (show 0 ≤ (st 15).toInt by omega) (show (st 15).toInt ≤ 128 by omega) (show 0 ≤ (st 16).toInt by omega) (show (st 16).toInt ≤ 128 by omega) (show 0 ≤ (st 17).toInt by omega) (show (st 17).toInt ≤ 1 by omega) (show -1 ≤ (st 21).toInt by omega) (show (st 21).toInt ≤ 127 by omega) (show 0 ≤ (st 22).toInt by omega) (show (st 22).toInt ≤ 1000000 by omega) (show 0 ≤ (st 24).toInt by omega) (show (st 24).toInt ≤ 1 by omega) (show 0 ≤ (st 26).toInt by omega) (show (st 26).toInt ≤ 2000000 by omega) (show aR (ai 25) 130 (0) 127 from hR25)) (cwV 0 hts gX9_slot_X9_read rfl rfl rfl (by decide +kernel) ⟨Nat.le_of_ble_eq_true rfl, Nat.le_of_ble_eq_true rfl⟩) ⟨fun a U g mk q => by obtain ⟨q0, q1, qP, qK, qD⟩ := q; exact ⟨q0, q1, qP, va_K.moved (u := U) (U := U.calling g mk a) (Vm.Alike.refl U.vm) qK, qD⟩, va_recv hK hP (ci := 11) (q := (RX9, TX9, 38)) rfl (q0 := 0) rfl, fun U hU hW => ⟨rfl, by rw [hU], by rw [hU]; exact hP, va_K.moved hW.alike hK, rw_D (hD.weaken (fun _ _ _ _ => trivial))⟩⟩ rfl rfl hl.1 rfl (lv_room (Nat.le_of_ble_eq_true rfl)) dX9_slot_26 ⟨Nat.le_of_ble_eq_true rfl, Nat.le_of_ble_eq_true rfl⟩) hS (fun q _ h => hFc q h) hFc (fun ur_4 t H1 locs ht hvm er_4 hB hz1 hk1 hS => ?_)
        obtain ⟨x16_4, x17_4, x21_4, x22_4, x24_4, x26_4, y23_4, y27_4, f19_4, f20_4, f25_4, g18_4, k_5, k_6, k_7, k_8, k_9, k_10, k_11, k_12, k_13, k_14, k_15, k_16, k_17, k_18, k_19, k_20, k_21, hR25, hG, hC, hV, hBs, hP1⟩ := hB
        rw [ht] at hP1
        clear hFc hz1 hk1 hvm hP
        subst ht
        have hP := hP1
        clear hP1
        generalize t.heap = H at hP hS ⊢
        have hP : va_P (dC, dI) vwCl (rw_W o c kc (rU (rU (rU (rU (rU (rU (rU st 13 (0 : Int32)) 16 x16_4) 17 x17_4) 21 x21_4) 22 x22_4) 24 x24_4) 26 x26_4) (rU (rU lg 23 y23_4) 27 y27_4) (rU (rU (rU ai 19 f19_4) 20 f20_4) 25 f25_4) (rU al 18 g18_4)) H := hP
        have k_5 : x16_4.toInt = (st 15).toInt := k_5
        have k_6 : 0 ≤ x26_4.toInt - x22_4.toInt := k_6
        have k_7 : x26_4.toInt - x22_4.toInt ≤ 128 := k_7
        have k_8 : (x21_4.toInt = -1 ∨ (rK (ai 0) (st 7) x21_4).toInt = 1) := k_8
        have k_9 : x21_4.toInt < x16_4.toInt := k_9
        have k_10 : 0 ≤ x16_4.toInt := k_10
        have k_11 : x16_4.toInt ≤ 128 := k_11
        have k_12 : 0 ≤ x17_4.toInt := k_12
        have k_13 : x17_4.toInt ≤ 1 := k_13
        have k_14 : -1 ≤ x21_4.toInt := k_14
        have k_15 : x21_4.toInt ≤ 127 := k_15
        have k_16 : 0 ≤ x22_4.toInt := k_16
        have k_17 : x22_4.toInt ≤ 1000000 := k_17
        have k_18 : 0 ≤ x24_4.toInt := k_18
        have k_19 : x24_4.toInt ≤ 1 := k_19
        have k_20 : 0 ≤ x26_4.toInt := k_20
        have k_21 : x26_4.toInt ≤ 2000000 := k_21
        have hR25 : aR f25_4 130 (0) 127 := hR25
        have hG : gOK (ai 0) (st 7) x16_4 f19_4 := hG
        have hC : cOK (ai 0) (st 7) x16_4 f20_4 := hC
        have hV : vOK (ai 0) (st 7) x16_4 f25_4 (x26_4.toInt - x22_4.toInt) := hV
        have hBs : bOK (ai 0) (st 7) x16_4 x24_4 := hBs
        refine lv_aload_n hx hb dX9_slot_29 rfl (lv_at hl 0 rfl) ?_
        have join30 : ∀ (jt_30 : Int32) (H : Heap) (locs : List Loc) (ls : Array Slot), (0 ≤ jt_30.toInt) → (jt_30.toInt ≤ 2) → (jt_30.toInt = 0 → (((0 ≤ p1.toInt ∧ p1.toInt ≤ 15) ∧ x22_4.toInt ≤ p0.toInt) ∧ p0.toInt ≤ x26_4.toInt)) → va_P (dC, dI) vwCl (rw_W o c kc (rU (rU (rU (rU (rU (rU (rU st 13 (0 : Int32)) 16 x16_4) 17 x17_4) 21 x21_4) 22 x22_4) 24 x24_4) 26 x26_4) (rU (rU lg 23 y23_4) 27 y27_4) (rU (rU (rU ai 19 f19_4) 20 f20_4) 25 f25_4) (rU al 18 g18_4)) H → va_S A s.heap H locs → lv_has ls 3 [(0, .ref o), (1, .int p0), (2, .int p1)] → W p l e (headSpec wsX9_slot ({ frames := 7, cells := 0, slots := 0, locals := 159 })).room s m ([.ref o, .int p0, .int p1] : List Value).toArray below meth cM H locs 0 0 (MQ below (va_Ql (fun r (u : Int64) => r = u) (fun _ t => ∃ (x13 : Int32) (x16 : Int32) (x17 : Int32) (x21 : Int32) (x22 : Int32) (x24 : Int32) (x26 : Int32) (y23 : Int64) (y27 : Int64) (f19 : Nat → Int32) (f20 : Nat → Int32) (f25 : Nat → Int32) (g18 : Nat → Int64) (g28 : Nat → Int64), (0 ≤ x16.toInt) ∧ (x16.toInt ≤ 128) ∧ (0 ≤ x17.toInt) ∧ (x17.toInt ≤ 1) ∧ (-1 ≤ x21.toInt) ∧ (x21.toInt ≤ 127) ∧ (0 ≤ x22.toInt) ∧ (x22.toInt ≤ 1000000) ∧ (0 ≤ x24.toInt) ∧ (x24.toInt ≤ 1) ∧ (0 ≤ x26.toInt) ∧ (x26.toInt ≤ 2000000) ∧ (aR f25 130 (0) 127) ∧ va_P (dC, dI) vwCl (rw_W o c kc (rU (rU (rU (rU (rU (rU (rU st 13 x13) 16 x16) 17 x17) 21 x21) 22 x22) 24 x24) 26 x26) (rU (rU lg 23 y23) 27 y27) (rU (rU (rU ai 19 f19) 20 f20) 25 f25) (rU (rU al 18 g18) 28 g28)) t.heap) A) ([.ref o, .int p0, .int p1] : List Value).toArray s 0 0 A) (F0 m 53 ls [.int jt_30, .ref o]) := by
          intro jt_30 H locs ls ij0_30 ij1_30 ij2_30 hP hS hl
          refine va_put (D := (dC, dI)) (ci := 11) (v := .int jt_30) (ty := .int) (C := RX9) (T := TX9) (N := 38) hx hb hts hin9 tyX9 tyX9_ok nmX9 hown hK hP (rw_D hD) hS 0 rfl rfl 13 (by decide) (hts (.fieldLink RX9 91 "BlockLogModel" "thrown" "I") (by decide +kernel)) (fun _ h9 => h9) rfl (by decide +kernel) rfl rfl (Nat.le_of_ble_eq_true rfl) dX9_slot_53 (fun H locs hP _ hS => ?_)
          have hP : va_P (dC, dI) vwCl (rw_W o c kc (rU (rU (rU (rU (rU (rU (rU st 13 jt_30) 16 x16_4) 17 x17_4) 21 x21_4) 22 x22_4) 24 x24_4) 26 x26_4) (rU (rU lg 23 y23_4) 27 y27_4) (rU (rU (rU ai 19 f19_4) 20 f20_4) 25 f25_4) (rU al 18 g18_4)) H := hP
          refine lv_aload_n hx hb dX9_slot_56 rfl (lv_at hl 0 rfl) ?_
          refine va_get (D := (dC, dI)) (ci := 11) (v := .int jt_30) (C := RX9) (T := TX9) (N := 38) hx hb hts hin9 hown hK hP 0 rfl rfl 13 (by decide) (hts (.fieldLink RX9 91 "BlockLogModel" "thrown" "I") (by decide +kernel)) (fun _ h9 => h9) rfl dX9_slot_57 ?_
          refine lv_if_le (tgt := 65) hx hb dX9_slot_60 (by decide) (fun c_22 => ?_) (fun c_22 => ?_)
          · skip
            have ic_22 := iv_le c_22
            refine lv_aload_n hx hb dX9_slot_65 rfl (lv_at hl 0 rfl) ?_
            refine lv_iload_n hx hb dX9_slot_66 rfl (lv_at hl 1 rfl) ?_
            have hFc := vfree (rw_D hD : va_D A (rw_W o c kc (rU (rU (rU (rU (rU (rU (rU st 13 jt_30) 16 x16_4) 17 x17_4) 21 x21_4) 22 x22_4) 24 x24_4) 26 x26_4) (rU (rU lg 23 y23_4) 27 y27_4) (rU (rU (rU ai 19 f19_4) 20 f20_4) 25 f25_4) (rU al 18 g18_4))) hS hA
            refine va_callv (va_runV (As := [.int p0]) (rest := []) ⟨hx, hb, hml, hown, hts⟩ (v_X9_versionState l dC dI o c kc (rU (rU (rU (rU (rU (rU (rU st 13 jt_30) 16 x16_4) 17 x17_4) 21 x21_4) 22 x22_4) 24 x24_4) 26 x26_4) (rU (rU lg 23 y23_4) 27 y27_4) (rU (rU (rU ai 19 f19_4) 20 f20_4) 25 f25_4) (rU al 18 g18_4) p0 _ (show 0 ≤ (st 7).toInt by omega) (show (st 7).toInt ≤ 1 by omega) (show 0 ≤ x16_4.toInt by omega) (show x16_4.toInt ≤ 128 by omega) (show 0 ≤ x22_4.toInt by omega) (show x22_4.toInt ≤ 1000000 by omega) (show 0 ≤ x24_4.toInt by omega) (show x24_4.toInt ≤ 1 by omega) (show 0 ≤ x26_4.toInt by omega) (show x26_4.toInt ≤ 2000000 by omega) (show x22_4.toInt ≤ p0.toInt by omega) (show p0.toInt - x22_4.toInt ≤ 128 by omega) (show p0.toInt ≤ x26_4.toInt by omega) (show aR f25_4 130 (0) 127 from hR25) (show vOK (ai 0) (st 7) x16_4 f25_4 (x26_4.toInt - x22_4.toInt) from (by assumption)) (show bOK (ai 0) (st 7) x16_4 x24_4 from (by assumption))) (cwV 1 hts gX9_slot_X9_versionState rfl rfl rfl (by decide +kernel) ⟨Nat.le_of_ble_eq_true rfl, Nat.le_of_ble_eq_true rfl⟩) ⟨fun a U g mk q => by obtain ⟨q0, q1, qP, qK, qD⟩ := q; exact ⟨q0, q1, qP, va_K.moved (u := U) (U := U.calling g mk a) (Vm.Alike.refl U.vm) qK, qD⟩, va_recv hK hP (ci := 11) (q := (RX9, TX9, 38)) rfl (q0 := 0) rfl, fun U hU hW => ⟨rfl, by rw [hU], by rw [hU]; exact hP, va_K.moved hW.alike hK, rw_D (hD.weaken (fun _ _ _ _ => trivial))⟩⟩ rfl rfl hl.1 rfl (lv_room (Nat.le_of_ble_eq_true rfl)) dX9_slot_67 ⟨Nat.le_of_ble_eq_true rfl, Nat.le_of_ble_eq_true rfl⟩) hS (fun q _ h => hFc q h) hFc (fun ur_23 t H1 locs ht hvm er_23 hB hz1 hk1 hS => ?_)
            obtain ⟨g28_23, hSt, hP1⟩ := hB
            rw [ht] at hP1
            clear hFc hz1 hk1 hvm hP
            subst ht
            have hP := hP1
            clear hP1
            generalize t.heap = H at hP hS ⊢
            have hP : va_P (dC, dI) vwCl (rw_W o c kc (rU (rU (rU (rU (rU (rU (rU st 13 jt_30) 16 x16_4) 17 x17_4) 21 x21_4) 22 x22_4) 24 x24_4) 26 x26_4) (rU (rU lg 23 y23_4) 27 y27_4) (rU (rU (rU ai 19 f19_4) 20 f20_4) 25 f25_4) (rU (rU al 18 g18_4) 28 g28_23)) H := hP
            have hSt : sOK (ai 0) (st 7) g28_23 := hSt
            refine lv_aload_n hx hb dX9_slot_70 rfl (lv_at hl 0 rfl) ?_
            refine va_get (D := (dC, dI)) (ci := 11) (v := .ref (c 28)) (C := RX9) (T := TX9) (N := 38) hx hb hts hin9 hown hK hP 0 rfl rfl 28 (by decide) (hts (.fieldLink RX9 40 "BlockLogModel" "state" "[J") (by decide +kernel)) (fun _ h9 => h9) rfl dX9_slot_71 ?_
            refine lv_iload_n hx hb dX9_slot_74 rfl (lv_at hl 2 rfl) ?_
            refine va_lald (f := g28_23) hx hb hK hP 10 9 rfl rfl (iv_in (i := p1) (by omega) (by omega)) dX9_slot_75 ?_
            refine lv_topl (fun w_24 ew_24 => ?_)
            have hX_state := ew_24
            clear ew_24
            exact W.lret hx hb hr (fun t ht hW => ⟨⟨_, _, rfl, rfl, jt_30, x16_4, x17_4, x21_4, x22_4, x24_4, x26_4, y23_4, y27_4, f19_4, f20_4, f25_4, g18_4, g28_23, (by omega), (by omega), (by omega), (by omega), (by omega), (by omega), (by omega), (by omega), (by omega), (by omega), (by omega), (by omega), hR25, by rw [ht]; exact hP⟩, hS.F ht⟩) hS.2.2 dX9_slot_76
          · skip
            have ic_22 := iv_nle c_22
            refine lv_lconst (v := 0) hx hb dX9_slot_63 (by decide) ?_
            exact W.lret hx hb hr (fun t ht hW => ⟨⟨_, _, rfl, rfl, jt_30, x16_4, x17_4, x21_4, x22_4, x24_4, x26_4, y23_4, y27_4, f19_4, f20_4, f25_4, g18_4, al 28, (by omega), (by omega), (by omega), (by omega), (by omega), (by omega), (by omega), (by omega), (by omega), (by omega), (by omega), (by omega), hR25, by rw [ht]; exact hP⟩, hS.F ht⟩) hS.2.2 dX9_slot_64
        refine lv_iload_n hx hb dX9_slot_30 rfl (lv_at hl 2 rfl) ?_
        refine lv_iconst (v := 0) hx hb dX9_slot_31 (by decide) ?_
        refine lv_bipush (v := 15) hx hb dX9_slot_32 (by decide) ?_
        refine vp_callSi (va_Run.run (va_runS (As := [.int p1, .int (0 : Int32), .int (15 : Int32)]) (rest := [.ref o]) ⟨hx, hb, hml, hown, hts⟩ (v_X9_within l dC dI p1 (0 : Int32) (15 : Int32) ) (va_cwS 3 hts gX9_slot_X9_within rfl rfl rfl (by decide +kernel) ⟨Nat.le_of_ble_eq_true rfl, Nat.le_of_ble_eq_true rfl⟩) ⟨fun a U g mk q => q, fun U hU hW => ⟨rfl, trivial⟩⟩ rfl rfl hl.1 rfl (lv_room (Nat.le_of_ble_eq_true rfl)) dX9_slot_34 ⟨Nat.le_of_ble_eq_true rfl, Nat.le_of_ble_eq_true rfl⟩)) (fun r_25 er_25 => ?_)
        obtain ⟨k_26, k_27, k_28, k_29, k_30⟩ := er_25
        rcases iv_01 (a := r_25) (by omega) (by omega) with b_31 | b_31
        · skip
          have ib_31 := iv_eq b_31
          rw [b_31]
          refine lv_if_eq (tgt := 48) hx hb dX9_slot_37 (by decide) (fun c_32 => ?_) (fun c_32 => ?_)
          · skip
            have ic_32 := iv_eq c_32
            refine lv_iconst (v := 2) hx hb dX9_slot_48 (by decide) ?_
            refine lv_goto (tgt := 53) hx hb dX9_slot_49 (by decide) ?_
            exact join30 (2 : Int32) _ _ _ (by omega) (by omega) (by omega) hP hS (lv_sub hl [0, 1, 2] rfl)
          · skip
            have ic_32 := iv_ne c_32
            exfalso
            omega
        · skip
          have ib_31 := iv_eq b_31
          rw [b_31]
          refine lv_if_eq (tgt := 48) hx hb dX9_slot_37 (by decide) (fun c_33 => ?_) (fun c_33 => ?_)
          · skip
            have ic_33 := iv_eq c_33
            exfalso
            omega
          · skip
            have ic_33 := iv_ne c_33
            refine lv_aload_n hx hb dX9_slot_40 rfl (lv_at hl 0 rfl) ?_
            refine lv_iload_n hx hb dX9_slot_41 rfl (lv_at hl 1 rfl) ?_
            refine vp_callSi (va_Run.run (va_runV (As := [.int p0]) (rest := [.ref o]) ⟨hx, hb, hml, hown, hts⟩ (v_X9_isKept l dC dI o c kc (rU (rU (rU (rU (rU (rU (rU st 13 (0 : Int32)) 16 x16_4) 17 x17_4) 21 x21_4) 22 x22_4) 24 x24_4) 26 x26_4) (rU (rU lg 23 y23_4) 27 y27_4) (rU (rU (rU ai 19 f19_4) 20 f20_4) 25 f25_4) (rU al 18 g18_4) p0 (show 0 ≤ x17_4.toInt by omega) (show x17_4.toInt ≤ 1 by omega) (show 0 ≤ x22_4.toInt by omega) (show x22_4.toInt ≤ 1000000 by omega) (show 0 ≤ x26_4.toInt by omega) (show x26_4.toInt ≤ 2000000 by omega)) (cwV 1 hts gX9_slot_X9_isKept rfl rfl rfl (by decide +kernel) ⟨Nat.le_of_ble_eq_true rfl, Nat.le_of_ble_eq_true rfl⟩) ⟨fun a U g mk q => by obtain ⟨q0, qP, qK⟩ := q; exact ⟨q0, qP, va_K.moved (u := U) (U := U.calling g mk a) (Vm.Alike.refl U.vm) qK⟩, va_recv hK hP (ci := 11) (q := (RX9, TX9, 38)) rfl (q0 := 0) rfl, fun U hU hW => ⟨rfl, by rw [hU]; exact hP, va_K.moved hW.alike hK⟩⟩ rfl rfl hl.1 rfl (lv_room (Nat.le_of_ble_eq_true rfl)) dX9_slot_42 ⟨Nat.le_of_ble_eq_true rfl, Nat.le_of_ble_eq_true rfl⟩)) (fun r_34 er_34 => ?_)
            obtain ⟨k_35, k_36, k_37⟩ := er_34
            have k_35 : (r_34.toInt = 1 → (x22_4.toInt ≤ p0.toInt ∧ p0.toInt ≤ x26_4.toInt)) := k_35
            rcases iv_01 (a := r_34) (by omega) (by omega) with b_38 | b_38
            · skip
              have ib_38 := iv_eq b_38
              rw [b_38]
              refine lv_if_ne (tgt := 52) hx hb dX9_slot_45 (by decide) (fun c_39 => ?_) (fun c_39 => ?_)
              · skip
                have ic_39 := iv_ne c_39
                exfalso
                omega
              · skip
                have ic_39 := iv_eq c_39
                refine lv_iconst (v := 2) hx hb dX9_slot_48 (by decide) ?_
                refine lv_goto (tgt := 53) hx hb dX9_slot_49 (by decide) ?_
                exact join30 (2 : Int32) _ _ _ (by omega) (by omega) (by omega) hP hS (lv_sub hl [0, 1, 2] rfl)
            · skip
              have ib_38 := iv_eq b_38
              rw [b_38]
              refine lv_if_ne (tgt := 52) hx hb dX9_slot_45 (by decide) (fun c_40 => ?_) (fun c_40 => ?_)
              · skip
                have ic_40 := iv_ne c_40
                refine lv_iconst (v := 0) hx hb dX9_slot_52 (by decide) ?_
                exact join30 (0 : Int32) _ _ _ (by omega) (by omega) (by omega) hP hS (lv_sub hl [0, 1, 2] rfl)
              · skip
                have ic_40 := iv_eq c_40
                exfalso
                omega
      · skip
        have ic_3 := iv_nle c_3
        exfalso
        omega
  exact main s.heap [] hP hS
