set_option maxHeartbeats 4000000 in
set_option maxRecDepth 100000 in
theorem v_X9_in (l : Launch) (dC : Nat → ClassId) (dI : Nat → Nat → Nat) (o : Nat) (c : Nat → Nat) (kc : Nat → ClassId) (st : Nat → Int32) (lg : Nat → Int64) (ai : Nat → Nat → Int32) (al : Nat → Nat → Int64)  (sz : Nat) (hf1a : 1 ≤ (st 1).toInt) (hf1b : (st 1).toInt ≤ 65536) (hf3a : 0 ≤ (st 3).toInt) (hf3b : (st 3).toInt ≤ 1) (hf6a : 0 ≤ (st 6).toInt) (hf6b : (st 6).toInt ≤ 1) (hf7a : 0 ≤ (st 7).toInt) (hf7b : (st 7).toInt ≤ 1) (hf9a : 0 ≤ (st 9).toInt) (hf9b : (st 9).toInt ≤ 400) (hf12a : 0 ≤ (st 12).toInt) (hf12b : (st 12).toInt ≤ 8) (hf15a : 0 ≤ (st 15).toInt) (hf15b : (st 15).toInt ≤ 128) (hf37a : 0 ≤ (st 37).toInt) (hf37b : (st 37).toInt ≤ 255) (hR8 : aR (ai 8) 400 (0) 255) (hR35 : aR (ai 35) 16 (0) 255) : Met l yX9_in wsX9_in ({ frames := 6, cells := 0, slots := 0, locals := 139 }) (va_Pc [.ref o] (fun U => U.heap.size = sz ∧ va_P (dC, dI) vwCl (rw_W o c kc st lg ai al) U.heap ∧ va_K (dC, dI) vwCl (rw_T kc) U ∧ va_D (fun _ => True) (rw_W o c kc st lg ai al))) (va_Qi (fun r (u : Int32) => r = u) (fun u t => ∃ (x3 : Int32) (x4 : Int32) (x5 : Int32) (x6 : Int32) (x9 : Int32) (x12 : Int32) (x13 : Int32) (x15 : Int32) (x37 : Int32) (f0 : Nat → Int32) (f14 : Nat → Int32) (f33 : Nat → Int32) (f34 : Nat → Int32) (f35 : Nat → Int32) (g36 : Nat → Int64), (0 ≤ x3.toInt) ∧ (x3.toInt ≤ 1) ∧ (0 ≤ x6.toInt) ∧ (x6.toInt ≤ 1) ∧ (0 ≤ x9.toInt) ∧ (x9.toInt ≤ 400) ∧ (0 ≤ x12.toInt) ∧ (x12.toInt ≤ 8) ∧ (0 ≤ x15.toInt) ∧ (x15.toInt ≤ 128) ∧ (0 ≤ x37.toInt) ∧ (x37.toInt ≤ 255) ∧ (aR f35 16 (0) 255) ∧ va_P (dC, dI) vwCl (rw_W o c kc (rU (rU (rU (rU (rU (rU (rU (rU (rU st 3 x3) 4 x4) 5 x5) 6 x6) 9 x9) 12 x12) 13 x13) 15 x15) 37 x37) lg (rU (rU (rU (rU (rU ai 0 f0) 14 f14) 33 f33) 34 f34) 35 f35) (rU al 36 g36)) t.heap) (va_A (rw_W o c kc st lg ai al) sz)) 0 0 (va_A (rw_W o c kc st lg ai al) sz) := by
  refine Met.ofW (cc := cX9_in) (maxL := 6) (ret := (some .int)) (by decide) rfl ?_
  intro p e s m args below meth cM s₁ B hml hv
  obtain ⟨rfl, hsz, hP, hK, hD0⟩ := hv
  have hx := B.exec
  have hb := B.bytes
  have hr := B.returns
  have hts := atoms_spec (ws := wsX9_in) B.pre
  have hown : s.vm.findClass RX9 = some m.cls := findClass_of_methodNamed B.named
  subst hsz
  have hD := hD0.self (sz := s.heap.size)
  generalize hAe : va_A (rw_W o c kc st lg ai al) s.heap.size = A at hD ⊢
  have hA : ∀ q : Nat, s.heap.size ≤ q → A q := fun q h => by rw [← hAe]; exact Or.inr h
  have hS : va_S A s.heap s.heap [] := va_S.rf
  clear hAe hD0
  have hl := lv_entry ([.ref o]) (n := 6) (Nat.le_of_ble_eq_true rfl)
  rw [lg_entry_eq]
  generalize (lg_sl ([.ref o]) ++ List.replicate (6 - (lg_sl ([.ref o])).length) Slot.unset).toArray = ls at hl ⊢
  have hl : lv_has ls 6 [(0, .ref o)] := hl
  have z_m10 : (-10 : Int32).toInt = -10 := by decide
  have z_m9 : (-9 : Int32).toInt = -9 := by decide
  have z_m4 : (-4 : Int32).toInt = -4 := by decide
  have z_m3 : (-3 : Int32).toInt = -3 := by decide
  have z_m2 : (-2 : Int32).toInt = -2 := by decide
  have z_m1 : (-1 : Int32).toInt = -1 := by decide
  have z_0 : (0 : Int32).toInt = 0 := by decide
  have z_1 : (1 : Int32).toInt = 1 := by decide
  have z_3 : (3 : Int32).toInt = 3 := by decide
  have z_4 : (4 : Int32).toInt = 4 := by decide
  have z_5 : (5 : Int32).toInt = 5 := by decide
  have z_8 : (8 : Int32).toInt = 8 := by decide
  have z_26 : (26 : Int32).toInt = 26 := by decide
  have z_32 : (32 : Int32).toInt = 32 := by decide
  have hin9 : ∀ w ∈ u_ws RX9 TX9 38, w ∈ wsX9_in := by decide +kernel
  have main : ∀ (H : Heap) (locs : List Loc), va_P (dC, dI) vwCl (rw_W o c kc st lg ai al) H → va_S A s.heap H locs → W p l e (headSpec wsX9_in ({ frames := 6, cells := 0, slots := 0, locals := 139 })).room s m ([.ref o] : List Value).toArray below meth cM H locs 0 0 (MQ below (va_Qi (fun r (u : Int32) => r = u) (fun u t => ∃ (x3 : Int32) (x4 : Int32) (x5 : Int32) (x6 : Int32) (x9 : Int32) (x12 : Int32) (x13 : Int32) (x15 : Int32) (x37 : Int32) (f0 : Nat → Int32) (f14 : Nat → Int32) (f33 : Nat → Int32) (f34 : Nat → Int32) (f35 : Nat → Int32) (g36 : Nat → Int64), (0 ≤ x3.toInt) ∧ (x3.toInt ≤ 1) ∧ (0 ≤ x6.toInt) ∧ (x6.toInt ≤ 1) ∧ (0 ≤ x9.toInt) ∧ (x9.toInt ≤ 400) ∧ (0 ≤ x12.toInt) ∧ (x12.toInt ≤ 8) ∧ (0 ≤ x15.toInt) ∧ (x15.toInt ≤ 128) ∧ (0 ≤ x37.toInt) ∧ (x37.toInt ≤ 255) ∧ (aR f35 16 (0) 255) ∧ va_P (dC, dI) vwCl (rw_W o c kc (rU (rU (rU (rU (rU (rU (rU (rU (rU st 3 x3) 4 x4) 5 x5) 6 x6) 9 x9) 12 x12) 13 x13) 15 x15) 37 x37) lg (rU (rU (rU (rU (rU ai 0 f0) 14 f14) 33 f33) 34 f34) 35 f35) (rU al 36 g36)) t.heap) A) ([.ref o] : List Value).toArray s 0 0 A) (F0 m 0 ls []) := by
    intro H locs hP hS
    refine lv_aload_n hx hb dX9_in_0 rfl (lv_at hl 0 rfl) ?_
    refine lv_aload_n hx hb dX9_in_1 rfl (lv_at hl 0 rfl) ?_
    refine va_get (D := (dC, dI)) (ci := 11) (v := .int (st 3)) (C := RX9) (T := TX9) (N := 38) hx hb hts hin9 hown hK hP 0 rfl rfl 3 (by decide) (hts (.fieldLink RX9 72 "BlockLogModel" "on" "Z") (by decide +kernel)) (fun _ h9 => h9) rfl dX9_in_2 ?_
    refine lv_if_eq (tgt := 12) hx hb dX9_in_5 (by decide) (fun c_1 => ?_) (fun c_1 => ?_)
    · skip
      have ic_1 := iv_eq c_1
      refine lv_iconst (v := 1) hx hb dX9_in_12 (by decide) ?_
      refine va_put (D := (dC, dI)) (ci := 11) (v := .int (1 : Int32)) (ty := .int) (C := RX9) (T := TX9) (N := 38) hx hb hts hin9 tyX9 tyX9_ok nmX9 hown hK hP (rw_D hD) hS 0 rfl rfl 13 (by decide) (hts (.fieldLink RX9 91 "BlockLogModel" "thrown" "I") (by decide +kernel)) (fun _ h9 => h9) rfl (by decide +kernel) rfl rfl (Nat.le_of_ble_eq_true rfl) dX9_in_13 (fun H locs hP _ hS => ?_)
      have hP : va_P (dC, dI) vwCl (rw_W o c kc (rU st 13 (1 : Int32)) lg ai al) H := hP
      refine lv_aload_n hx hb dX9_in_16 rfl (lv_at hl 0 rfl) ?_
      refine va_get (D := (dC, dI)) (ci := 11) (v := .int (1 : Int32)) (C := RX9) (T := TX9) (N := 38) hx hb hts hin9 hown hK hP 0 rfl rfl 13 (by decide) (hts (.fieldLink RX9 91 "BlockLogModel" "thrown" "I") (by decide +kernel)) (fun _ h9 => h9) rfl dX9_in_17 ?_
      refine lv_if_le (tgt := 25) hx hb dX9_in_20 (by decide) (fun c_2 => ?_) (fun c_2 => ?_)
      · skip
        have ic_2 := iv_le c_2
        exfalso
        omega
      · skip
        have ic_2 := iv_nle c_2
        refine lv_iconst (v := 0) hx hb dX9_in_23 (by decide) ?_
        exact W.iret hx hb hr (fun t ht hW => ⟨⟨_, _, rfl, rfl, st 3, st 4, st 5, st 6, st 9, st 12, (1 : Int32), st 15, st 37, ai 0, ai 14, ai 33, ai 34, ai 35, al 36, (by omega), (by omega), (by omega), (by omega), (by omega), (by omega), (by omega), (by omega), (by omega), (by omega), (by omega), (by omega), hR35, by rw [ht]; exact hP⟩, hS.F ht⟩) hS.2.2 dX9_in_24
    · skip
      have ic_1 := iv_ne c_1
      refine lv_iconst (v := 0) hx hb dX9_in_8 (by decide) ?_
      refine lv_goto (tgt := 13) hx hb dX9_in_9 (by decide) ?_
      refine va_put (D := (dC, dI)) (ci := 11) (v := .int (0 : Int32)) (ty := .int) (C := RX9) (T := TX9) (N := 38) hx hb hts hin9 tyX9 tyX9_ok nmX9 hown hK hP (rw_D hD) hS 0 rfl rfl 13 (by decide) (hts (.fieldLink RX9 91 "BlockLogModel" "thrown" "I") (by decide +kernel)) (fun _ h9 => h9) rfl (by decide +kernel) rfl rfl (Nat.le_of_ble_eq_true rfl) dX9_in_13 (fun H locs hP _ hS => ?_)
      have hP : va_P (dC, dI) vwCl (rw_W o c kc (rU st 13 (0 : Int32)) lg ai al) H := hP
      refine lv_aload_n hx hb dX9_in_16 rfl (lv_at hl 0 rfl) ?_
      refine va_get (D := (dC, dI)) (ci := 11) (v := .int (0 : Int32)) (C := RX9) (T := TX9) (N := 38) hx hb hts hin9 hown hK hP 0 rfl rfl 13 (by decide) (hts (.fieldLink RX9 91 "BlockLogModel" "thrown" "I") (by decide +kernel)) (fun _ h9 => h9) rfl dX9_in_17 ?_
      refine lv_if_le (tgt := 25) hx hb dX9_in_20 (by decide) (fun c_3 => ?_) (fun c_3 => ?_)
      · skip
        have ic_3 := iv_le c_3
        refine lv_aload_n hx hb dX9_in_25 rfl (lv_at hl 0 rfl) ?_
        refine vp_callSi (va_Run.run (va_runV (As := []) (rest := []) ⟨hx, hb, hml, hown, hts⟩ (v_X9_badRows l dC dI o c kc (rU st 13 (0 : Int32)) lg ai al  (show 0 ≤ (st 7).toInt by omega) (show (st 7).toInt ≤ 1 by omega) (show 0 ≤ (st 15).toInt by omega) (show (st 15).toInt ≤ 128 by omega)) (cwV 0 hts gX9_in_X9_badRows rfl rfl rfl (by decide +kernel) ⟨Nat.le_of_ble_eq_true rfl, Nat.le_of_ble_eq_true rfl⟩) ⟨fun a U g mk q => by obtain ⟨q0, qP, qK⟩ := q; exact ⟨q0, qP, va_K.moved (u := U) (U := U.calling g mk a) (Vm.Alike.refl U.vm) qK⟩, va_recv hK hP (ci := 11) (q := (RX9, TX9, 38)) rfl (q0 := 0) rfl, fun U hU hW => ⟨rfl, by rw [hU]; exact hP, va_K.moved hW.alike hK⟩⟩ rfl rfl hl.1 rfl (lv_room (Nat.le_of_ble_eq_true rfl)) dX9_in_26 ⟨Nat.le_of_ble_eq_true rfl, Nat.le_of_ble_eq_true rfl⟩)) (fun r_4 er_4 => ?_)
        obtain ⟨k_5, k_6⟩ := er_4
        refine lv_if_le (tgt := 35) hx hb dX9_in_29 (by decide) (fun c_7 => ?_) (fun c_7 => ?_)
        · skip
          have ic_7 := iv_le c_7
          refine lv_aload_n hx hb dX9_in_35 rfl (lv_at hl 0 rfl) ?_
          refine vp_callSi (va_Run.run (va_runV (As := []) (rest := []) ⟨hx, hb, hml, hown, hts⟩ (v_X9_rows l dC dI o c kc (rU st 13 (0 : Int32)) lg ai al  (show 0 ≤ (st 15).toInt by omega) (show (st 15).toInt ≤ 128 by omega)) (cwV 0 hts gX9_in_X9_rows rfl rfl rfl (by decide +kernel) ⟨Nat.le_of_ble_eq_true rfl, Nat.le_of_ble_eq_true rfl⟩) ⟨fun a U g mk q => by obtain ⟨q0, qP, qK⟩ := q; exact ⟨q0, qP, va_K.moved (u := U) (U := U.calling g mk a) (Vm.Alike.refl U.vm) qK⟩, va_recv hK hP (ci := 11) (q := (RX9, TX9, 38)) rfl (q0 := 0) rfl, fun U hU hW => ⟨rfl, by rw [hU]; exact hP, va_K.moved hW.alike hK⟩⟩ rfl rfl hl.1 rfl (lv_room (Nat.le_of_ble_eq_true rfl)) dX9_in_36 ⟨Nat.le_of_ble_eq_true rfl, Nat.le_of_ble_eq_true rfl⟩)) (fun r_8 er_8 => ?_)
          have k_9 := er_8
          have k_9 : r_8.toInt = (st 15).toInt := k_9
          refine lv_if_le (tgt := 45) hx hb dX9_in_39 (by decide) (fun c_10 => ?_) (fun c_10 => ?_)
          · skip
            have ic_10 := iv_le c_10
            refine lv_aload_n hx hb dX9_in_45 rfl (lv_at hl 0 rfl) ?_
            have hFc := vfree (rw_D hD : va_D A (rw_W o c kc (rU st 13 (0 : Int32)) lg ai al)) hS hA
            refine va_calli (va_runV (As := []) (rest := []) ⟨hx, hb, hml, hown, hts⟩ (v_X9_isSnapshot l dC dI o c kc (rU st 13 (0 : Int32)) lg ai al  _ (show 0 ≤ (st 9).toInt by omega) (show (st 9).toInt ≤ 400 by omega) (show 0 ≤ (st 37).toInt by omega) (show (st 37).toInt ≤ 255 by omega) (show aR (ai 8) 400 (0) 255 from hR8) (show aR (ai 35) 16 (0) 255 from hR35)) (cwV 0 hts gX9_in_X9_isSnapshot rfl rfl rfl (by decide +kernel) ⟨Nat.le_of_ble_eq_true rfl, Nat.le_of_ble_eq_true rfl⟩) ⟨fun a U g mk q => by obtain ⟨q0, q1, qP, qK, qD⟩ := q; exact ⟨q0, q1, qP, va_K.moved (u := U) (U := U.calling g mk a) (Vm.Alike.refl U.vm) qK, qD⟩, va_recv hK hP (ci := 11) (q := (RX9, TX9, 38)) rfl (q0 := 0) rfl, fun U hU hW => ⟨rfl, by rw [hU], by rw [hU]; exact hP, va_K.moved hW.alike hK, rw_D (hD.weaken (fun _ _ _ _ => trivial))⟩⟩ rfl rfl hl.1 rfl (lv_room (Nat.le_of_ble_eq_true rfl)) dX9_in_46 ⟨Nat.le_of_ble_eq_true rfl, Nat.le_of_ble_eq_true rfl⟩) hS (fun q _ h => hFc q h) hFc (fun r_11 ur_11 t H1 locs ht hvm er_11 hB hz1 hk1 hS => ?_)
            subst er_11
            obtain ⟨x37_11, f33_11, f34_11, f35_11, k_12, k_13, k_14, k_15, k_16, k_17, hR35, hin, hP1⟩ := hB
            rw [ht] at hP1
            clear hFc hz1 hk1 hvm hP
            subst ht
            have hP := hP1
            clear hP1
            generalize t.heap = H at hP hS ⊢
            have hP : va_P (dC, dI) vwCl (rw_W o c kc (rU (rU st 13 (0 : Int32)) 37 x37_11) lg (rU (rU (rU ai 33 f33_11) 34 f34_11) 35 f35_11) al) H := hP
            have k_12 : (r_11.toInt = 1 → x37_11.toInt ≤ 16) := k_12
            have k_13 : (r_11.toInt = 1 → 21 ≤ (st 9).toInt) := k_13
            have k_16 : 0 ≤ x37_11.toInt := k_16
            have k_17 : x37_11.toInt ≤ 255 := k_17
            have hR35 : aR f35_11 16 (0) 255 := hR35
            have hin : r_11.toInt = 1 → inI f34_11 f35_11 x37_11 := hin
            rcases iv_01 (a := r_11) (by omega) (by omega) with b_18 | b_18
            · skip
              have ib_18 := iv_eq b_18
              rw [b_18]
              refine lv_if_ne (tgt := 55) hx hb dX9_in_49 (by decide) (fun c_19 => ?_) (fun c_19 => ?_)
              · skip
                have ic_19 := iv_ne c_19
                exfalso
                omega
              · skip
                have ic_19 := iv_eq c_19
                refine lv_bipush (v := (-10)) hx hb dX9_in_52 (by decide) ?_
                exact W.iret hx hb hr (fun t ht hW => ⟨⟨_, _, rfl, rfl, st 3, st 4, st 5, st 6, st 9, st 12, (0 : Int32), st 15, x37_11, ai 0, ai 14, f33_11, f34_11, f35_11, al 36, (by omega), (by omega), (by omega), (by omega), (by omega), (by omega), (by omega), (by omega), (by omega), (by omega), (by omega), (by omega), hR35, by rw [ht]; exact hP⟩, hS.F ht⟩) hS.2.2 dX9_in_54
            · skip
              have ib_18 := iv_eq b_18
              rw [b_18]
              refine lv_if_ne (tgt := 55) hx hb dX9_in_49 (by decide) (fun c_20 => ?_) (fun c_20 => ?_)
              · skip
                have ic_20 := iv_ne c_20
                have hin := hin (by omega)
                refine lv_iconst (v := 0) hx hb dX9_in_55 (by decide) ?_
                refine lv_istore_n (lv' := [(1, .int (0 : Int32)), (0, .ref o)]) hx hb dX9_in_56 rfl hl (by decide) rfl (fun ls hl => ?_)
                refine lv_iconst (v := 0) hx hb dX9_in_57 (by decide) ?_
                refine lv_istore_n (lv' := [(2, .int (0 : Int32)), (1, .int (0 : Int32)), (0, .ref o)]) hx hb dX9_in_58 rfl hl (by decide) rfl (fun ls hl => ?_)
                have loop59 : ∀ (n : Nat) (l2_59 : Int32) (l1_59 : Int32) (a14_59 : Nat → Int32) (b36_59 : Nat → Int64) (H : Heap) (locs : List Loc) (ls : Array Slot), (0 ≤ l2_59.toInt) → (l2_59.toInt ≤ x37_11.toInt) → (0 ≤ l1_59.toInt) → (l1_59.toInt ≤ l2_59.toInt) → (x37_11.toInt - l2_59.toInt : Int).toNat < n → va_P (dC, dI) vwCl (rw_W o c kc (rU (rU st 13 (0 : Int32)) 37 x37_11) lg (rU (rU (rU (rU ai 14 a14_59) 33 f33_11) 34 f34_11) 35 f35_11) (rU al 36 b36_59)) H → va_S A s.heap H locs → lv_has ls 6 [(2, .int l2_59), (1, .int l1_59), (0, .ref o)] → W p l e (headSpec wsX9_in ({ frames := 6, cells := 0, slots := 0, locals := 139 })).room s m ([.ref o] : List Value).toArray below meth cM H locs 0 0 (MQ below (va_Qi (fun r (u : Int32) => r = u) (fun u t => ∃ (x3 : Int32) (x4 : Int32) (x5 : Int32) (x6 : Int32) (x9 : Int32) (x12 : Int32) (x13 : Int32) (x15 : Int32) (x37 : Int32) (f0 : Nat → Int32) (f14 : Nat → Int32) (f33 : Nat → Int32) (f34 : Nat → Int32) (f35 : Nat → Int32) (g36 : Nat → Int64), (0 ≤ x3.toInt) ∧ (x3.toInt ≤ 1) ∧ (0 ≤ x6.toInt) ∧ (x6.toInt ≤ 1) ∧ (0 ≤ x9.toInt) ∧ (x9.toInt ≤ 400) ∧ (0 ≤ x12.toInt) ∧ (x12.toInt ≤ 8) ∧ (0 ≤ x15.toInt) ∧ (x15.toInt ≤ 128) ∧ (0 ≤ x37.toInt) ∧ (x37.toInt ≤ 255) ∧ (aR f35 16 (0) 255) ∧ va_P (dC, dI) vwCl (rw_W o c kc (rU (rU (rU (rU (rU (rU (rU (rU (rU st 3 x3) 4 x4) 5 x5) 6 x6) 9 x9) 12 x12) 13 x13) 15 x15) 37 x37) lg (rU (rU (rU (rU (rU ai 0 f0) 14 f14) 33 f33) 34 f34) 35 f35) (rU al 36 g36)) t.heap) A) ([.ref o] : List Value).toArray s 0 0 A) (F0 m 59 ls []) := by
                  intro n
                  induction n with
                  | zero => intro l2_59 l1_59 a14_59 b36_59 H locs ls if0_59 if1_59 if2_59 if3_59 hm; exact absurd hm (Nat.not_lt_zero _)
                  | succ n ih59 =>
                    intro l2_59 l1_59 a14_59 b36_59 H locs ls if0_59 if1_59 if2_59 if3_59 hm59 hP hS hl
                    refine lv_iload_n hx hb dX9_in_59 rfl (lv_at hl 0 rfl) ?_
                    refine lv_aload_n hx hb dX9_in_60 rfl (lv_at hl 2 rfl) ?_
                    refine va_get (D := (dC, dI)) (ci := 11) (v := .int x37_11) (C := RX9) (T := TX9) (N := 38) hx hb hts hin9 hown hK hP 0 rfl rfl 37 (by decide) (hts (.fieldLink RX9 362 "BlockLogModel" "inMany" "I") (by decide +kernel)) (fun _ h9 => h9) rfl dX9_in_61 ?_
                    refine lv_icmp_ge (tgt := 125) hx hb dX9_in_64 (by decide) (fun c_21 => ?_) (fun c_21 => ?_)
                    · skip
                      have ic_21 := iv_le c_21
                      refine lv_iload_n hx hb dX9_in_125 rfl (lv_at hl 1 rfl) ?_
                      refine lv_aload_n hx hb dX9_in_126 rfl (lv_at hl 2 rfl) ?_
                      refine vp_callSi (va_Run.run (va_runV (As := []) (rest := [.int l1_59]) ⟨hx, hb, hml, hown, hts⟩ (v_X9_freePages l dC dI o c kc (rU (rU st 13 (0 : Int32)) 37 x37_11) lg (rU (rU (rU (rU ai 14 a14_59) 33 f33_11) 34 f34_11) 35 f35_11) (rU al 36 b36_59)  (show 1 ≤ (st 1).toInt by omega) (show (st 1).toInt ≤ 65536 by omega)) (cwV 0 hts gX9_in_X9_freePages rfl rfl rfl (by decide +kernel) ⟨Nat.le_of_ble_eq_true rfl, Nat.le_of_ble_eq_true rfl⟩) ⟨fun a U g mk q => by obtain ⟨q0, qP, qK⟩ := q; exact ⟨q0, qP, va_K.moved (u := U) (U := U.calling g mk a) (Vm.Alike.refl U.vm) qK⟩, va_recv hK hP (ci := 11) (q := (RX9, TX9, 38)) rfl (q0 := 0) rfl, fun U hU hW => ⟨rfl, by rw [hU]; exact hP, va_K.moved hW.alike hK⟩⟩ rfl rfl hl.1 rfl (lv_room (Nat.le_of_ble_eq_true rfl)) dX9_in_127 ⟨Nat.le_of_ble_eq_true rfl, Nat.le_of_ble_eq_true rfl⟩)) (fun r_22 er_22 => ?_)
                      obtain ⟨k_23, k_24⟩ := er_22
                      have k_24 : r_22.toInt ≤ (st 1).toInt := k_24
                      refine lv_icmp_le (tgt := 136) hx hb dX9_in_130 (by decide) (fun c_25 => ?_) (fun c_25 => ?_)
                      · skip
                        have ic_25 := iv_le c_25
                        refine lv_aload_n hx hb dX9_in_136 rfl (lv_at hl 2 rfl) ?_
                        refine lv_iconst (v := 0) hx hb dX9_in_137 (by decide) ?_
                        refine lv_iconst (v := 4) hx hb dX9_in_138 (by decide) ?_
                        refine vp_callSl (va_Run.run (va_runV (As := [.int (0 : Int32), .int (4 : Int32)]) (rest := []) ⟨hx, hb, hml, hown, hts⟩ (v_X9_fromTape l dC dI o c kc (rU (rU st 13 (0 : Int32)) 37 x37_11) lg (rU (rU (rU (rU ai 14 a14_59) 33 f33_11) 34 f34_11) 35 f35_11) (rU al 36 b36_59) (0 : Int32) (4 : Int32) (by omega) (by omega) (by omega) (show aR (ai 8) 400 (0) 255 from hR8)) (cwV 2 hts gX9_in_X9_fromTape rfl rfl rfl (by decide +kernel) ⟨Nat.le_of_ble_eq_true rfl, Nat.le_of_ble_eq_true rfl⟩) ⟨fun a U g mk q => by obtain ⟨q0, qP, qK⟩ := q; exact ⟨q0, qP, va_K.moved (u := U) (U := U.calling g mk a) (Vm.Alike.refl U.vm) qK⟩, va_recv hK hP (ci := 11) (q := (RX9, TX9, 38)) rfl (q0 := 0) rfl, fun U hU hW => ⟨rfl, by rw [hU]; exact hP, va_K.moved hW.alike hK⟩⟩ rfl rfl hl.1 rfl (lv_room (Nat.le_of_ble_eq_true rfl)) dX9_in_139 ⟨Nat.le_of_ble_eq_true rfl, Nat.le_of_ble_eq_true rfl⟩)) (fun r_26 er_26 => ?_)
                        refine lv_l2i hx hb dX9_in_142 rfl ?_
                        refine lv_topi (fun v_27 ev_27 => ?_)
                        clear ev_27
                        refine lv_istore_n (lv' := [(2, .int v_27), (1, .int l1_59), (0, .ref o)]) hx hb dX9_in_143 rfl hl (by decide) rfl (fun ls hl => ?_)
                        refine lv_aload_n hx hb dX9_in_144 rfl (lv_at hl 2 rfl) ?_
                        refine lv_iconst (v := 4) hx hb dX9_in_145 (by decide) ?_
                        refine lv_bipush (v := 8) hx hb dX9_in_146 (by decide) ?_
                        refine vp_callSl (va_Run.run (va_runV (As := [.int (4 : Int32), .int (8 : Int32)]) (rest := []) ⟨hx, hb, hml, hown, hts⟩ (v_X9_fromTape l dC dI o c kc (rU (rU st 13 (0 : Int32)) 37 x37_11) lg (rU (rU (rU (rU ai 14 a14_59) 33 f33_11) 34 f34_11) 35 f35_11) (rU al 36 b36_59) (4 : Int32) (8 : Int32) (by omega) (by omega) (by omega) (show aR (ai 8) 400 (0) 255 from hR8)) (cwV 2 hts gX9_in_X9_fromTape rfl rfl rfl (by decide +kernel) ⟨Nat.le_of_ble_eq_true rfl, Nat.le_of_ble_eq_true rfl⟩) ⟨fun a U g mk q => by obtain ⟨q0, qP, qK⟩ := q; exact ⟨q0, qP, va_K.moved (u := U) (U := U.calling g mk a) (Vm.Alike.refl U.vm) qK⟩, va_recv hK hP (ci := 11) (q := (RX9, TX9, 38)) rfl (q0 := 0) rfl, fun U hU hW => ⟨rfl, by rw [hU]; exact hP, va_K.moved hW.alike hK⟩⟩ rfl rfl hl.1 rfl (lv_room (Nat.le_of_ble_eq_true rfl)) dX9_in_148 ⟨Nat.le_of_ble_eq_true rfl, Nat.le_of_ble_eq_true rfl⟩)) (fun r_28 er_28 => ?_)
                        refine lv_lstore_n (lv' := [(3, .long r_28), (2, .int v_27), (1, .int l1_59), (0, .ref o)]) hx hb dX9_in_151 rfl hl (by decide) rfl (fun ls hl => ?_)
                        refine lv_iconst (v := 0) hx hb dX9_in_152 (by decide) ?_
                        refine lv_istore (lv' := [(5, .int (0 : Int32)), (3, .long r_28), (2, .int v_27), (1, .int l1_59), (0, .ref o)]) hx hb dX9_in_153 hl (by decide) rfl (fun ls hl => ?_)
                        have loop155 : ∀ (n : Nat) (l5_155 : Int32) (s3_155 : Int32) (s4_155 : Int32) (s5_155 : Int32) (s6_155 : Int32) (s12_155 : Int32) (a0_155 : Nat → Int32) (a14_155 : Nat → Int32) (b36_155 : Nat → Int64) (H : Heap) (locs : List Loc) (ls : Array Slot), (0 ≤ l5_155.toInt) → (l5_155.toInt ≤ x37_11.toInt) → (0 ≤ s3_155.toInt) → (s3_155.toInt ≤ 1) → (0 ≤ s6_155.toInt) → (s6_155.toInt ≤ 1) → (0 ≤ s12_155.toInt) → (s12_155.toInt ≤ 8) → (x37_11.toInt - l5_155.toInt : Int).toNat < n → va_P (dC, dI) vwCl (rw_W o c kc (rU (rU (rU (rU (rU (rU (rU st 3 s3_155) 4 s4_155) 5 s5_155) 6 s6_155) 12 s12_155) 13 (0 : Int32)) 37 x37_11) lg (rU (rU (rU (rU (rU ai 0 a0_155) 14 a14_155) 33 f33_11) 34 f34_11) 35 f35_11) (rU al 36 b36_155)) H → va_S A s.heap H locs → lv_has ls 6 [(5, .int l5_155), (3, .long r_28), (2, .int v_27), (1, .int l1_59), (0, .ref o)] → W p l e (headSpec wsX9_in ({ frames := 6, cells := 0, slots := 0, locals := 139 })).room s m ([.ref o] : List Value).toArray below meth cM H locs 0 0 (MQ below (va_Qi (fun r (u : Int32) => r = u) (fun u t => ∃ (x3 : Int32) (x4 : Int32) (x5 : Int32) (x6 : Int32) (x9 : Int32) (x12 : Int32) (x13 : Int32) (x15 : Int32) (x37 : Int32) (f0 : Nat → Int32) (f14 : Nat → Int32) (f33 : Nat → Int32) (f34 : Nat → Int32) (f35 : Nat → Int32) (g36 : Nat → Int64), (0 ≤ x3.toInt) ∧ (x3.toInt ≤ 1) ∧ (0 ≤ x6.toInt) ∧ (x6.toInt ≤ 1) ∧ (0 ≤ x9.toInt) ∧ (x9.toInt ≤ 400) ∧ (0 ≤ x12.toInt) ∧ (x12.toInt ≤ 8) ∧ (0 ≤ x15.toInt) ∧ (x15.toInt ≤ 128) ∧ (0 ≤ x37.toInt) ∧ (x37.toInt ≤ 255) ∧ (aR f35 16 (0) 255) ∧ va_P (dC, dI) vwCl (rw_W o c kc (rU (rU (rU (rU (rU (rU (rU (rU (rU st 3 x3) 4 x4) 5 x5) 6 x6) 9 x9) 12 x12) 13 x13) 15 x15) 37 x37) lg (rU (rU (rU (rU (rU ai 0 f0) 14 f14) 33 f33) 34 f34) 35 f35) (rU al 36 g36)) t.heap) A) ([.ref o] : List Value).toArray s 0 0 A) (F0 m 155 ls []) := by
                          intro n
                          induction n with
                          | zero => intro l5_155 s3_155 s4_155 s5_155 s6_155 s12_155 a0_155 a14_155 b36_155 H locs ls if0_155 if1_155 if2_155 if3_155 if4_155 if5_155 if6_155 if7_155 hm; exact absurd hm (Nat.not_lt_zero _)
                          | succ n ih155 =>
                            intro l5_155 s3_155 s4_155 s5_155 s6_155 s12_155 a0_155 a14_155 b36_155 H locs ls if0_155 if1_155 if2_155 if3_155 if4_155 if5_155 if6_155 if7_155 hm155 hP hS hl
                            refine lv_iload hx hb dX9_in_155 (lv_at hl 0 rfl) ?_
                            refine lv_aload_n hx hb dX9_in_157 rfl (lv_at hl 4 rfl) ?_
                            refine va_get (D := (dC, dI)) (ci := 11) (v := .int x37_11) (C := RX9) (T := TX9) (N := 38) hx hb hts hin9 hown hK hP 0 rfl rfl 37 (by decide) (hts (.fieldLink RX9 362 "BlockLogModel" "inMany" "I") (by decide +kernel)) (fun _ h9 => h9) rfl dX9_in_158 ?_
                            refine lv_icmp_ge (tgt := 205) hx hb dX9_in_161 (by decide) (fun c_29 => ?_) (fun c_29 => ?_)
                            · skip
                              have ic_29 := iv_le c_29
                              refine lv_aload_n hx hb dX9_in_205 rfl (lv_at hl 4 rfl) ?_
                              refine lv_iconst (v := 0) hx hb dX9_in_206 (by decide) ?_
                              refine va_put (D := (dC, dI)) (ci := 11) (v := .int (0 : Int32)) (ty := .int) (C := RX9) (T := TX9) (N := 38) hx hb hts hin9 tyX9 tyX9_ok nmX9 hown hK hP (rw_D hD) hS 0 rfl rfl 9 (by decide) (hts (.fieldLink RX9 271 "BlockLogModel" "tapeSize" "I") (by decide +kernel)) (fun _ h9 => h9) rfl (by decide +kernel) rfl rfl (Nat.le_of_ble_eq_true rfl) dX9_in_207 (fun H locs hP _ hS => ?_)
                              have hP : va_P (dC, dI) vwCl (rw_W o c kc (rU (rU (rU (rU (rU (rU (rU (rU st 3 s3_155) 4 s4_155) 5 s5_155) 6 s6_155) 9 (0 : Int32)) 12 s12_155) 13 (0 : Int32)) 37 x37_11) lg (rU (rU (rU (rU (rU ai 0 a0_155) 14 a14_155) 33 f33_11) 34 f34_11) 35 f35_11) (rU al 36 b36_155)) H := hP
                              refine lv_aload_n hx hb dX9_in_210 rfl (lv_at hl 4 rfl) ?_
                              refine lv_iconst (v := 5) hx hb dX9_in_211 (by decide) ?_
                              refine lv_iload_n hx hb dX9_in_212 rfl (lv_at hl 2 rfl) ?_
                              refine lv_aload_n hx hb dX9_in_213 rfl (lv_at hl 4 rfl) ?_
                              refine va_get (D := (dC, dI)) (ci := 11) (v := .int x37_11) (C := RX9) (T := TX9) (N := 38) hx hb hts hin9 hown hK hP 0 rfl rfl 37 (by decide) (hts (.fieldLink RX9 362 "BlockLogModel" "inMany" "I") (by decide +kernel)) (fun _ h9 => h9) rfl dX9_in_214 ?_
                              refine lv_lload_n hx hb dX9_in_217 rfl (lv_at hl 1 rfl) ?_
                              have hFc := vfree (rw_D hD : va_D A (rw_W o c kc (rU (rU (rU (rU (rU (rU (rU (rU st 3 s3_155) 4 s4_155) 5 s5_155) 6 s6_155) 9 (0 : Int32)) 12 s12_155) 13 (0 : Int32)) 37 x37_11) lg (rU (rU (rU (rU (rU ai 0 a0_155) 14 a14_155) 33 f33_11) 34 f34_11) 35 f35_11) (rU al 36 b36_155))) hS hA
                              refine va_callv (va_runV (As := [.int (5 : Int32), .int v_27, .int x37_11, .long r_28]) (rest := []) ⟨hx, hb, hml, hown, hts⟩ (v_X9_layRow l dC dI o c kc (rU (rU (rU (rU (rU (rU (rU (rU st 3 s3_155) 4 s4_155) 5 s5_155) 6 s6_155) 9 (0 : Int32)) 12 s12_155) 13 (0 : Int32)) 37 x37_11) lg (rU (rU (rU (rU (rU ai 0 a0_155) 14 a14_155) 33 f33_11) 34 f34_11) 35 f35_11) (rU al 36 b36_155) (5 : Int32) v_27 x37_11 r_28 _ ) (cwV 4 hts gX9_in_X9_layRow rfl rfl rfl (by decide +kernel) ⟨Nat.le_of_ble_eq_true rfl, Nat.le_of_ble_eq_true rfl⟩) ⟨fun a U g mk q => by obtain ⟨q0, q1, qP, qK, qD⟩ := q; exact ⟨q0, q1, qP, va_K.moved (u := U) (U := U.calling g mk a) (Vm.Alike.refl U.vm) qK, qD⟩, va_recv hK hP (ci := 11) (q := (RX9, TX9, 38)) rfl (q0 := 0) rfl, fun U hU hW => ⟨rfl, by rw [hU], by rw [hU]; exact hP, va_K.moved hW.alike hK, rw_D (hD.weaken (fun _ _ _ _ => trivial))⟩⟩ rfl rfl hl.1 rfl (lv_room (Nat.le_of_ble_eq_true rfl)) dX9_in_218 ⟨Nat.le_of_ble_eq_true rfl, Nat.le_of_ble_eq_true rfl⟩) hS (fun q _ h => hFc q h) hFc (fun ur_30 t H1 locs ht hvm er_30 hB hz1 hk1 hS => ?_)
                              obtain ⟨f14_30, hP1⟩ := hB
                              rw [ht] at hP1
                              clear hFc hz1 hk1 hvm hP
                              subst ht
                              have hP := hP1
                              clear hP1
                              generalize t.heap = H at hP hS ⊢
                              have hP : va_P (dC, dI) vwCl (rw_W o c kc (rU (rU (rU (rU (rU (rU (rU (rU st 3 s3_155) 4 s4_155) 5 s5_155) 6 s6_155) 9 (0 : Int32)) 12 s12_155) 13 (0 : Int32)) 37 x37_11) lg (rU (rU (rU (rU (rU ai 0 a0_155) 14 f14_30) 33 f33_11) 34 f34_11) 35 f35_11) (rU al 36 b36_155)) H := hP
                              refine lv_aload_n hx hb dX9_in_221 rfl (lv_at hl 4 rfl) ?_
                              refine lv_aload_n hx hb dX9_in_222 rfl (lv_at hl 4 rfl) ?_
                              refine lv_aload_n hx hb dX9_in_223 rfl (lv_at hl 4 rfl) ?_
                              refine va_get (D := (dC, dI)) (ci := 11) (v := .int (st 7)) (C := RX9) (T := TX9) (N := 38) hx hb hts hin9 hown hK hP 0 rfl rfl 7 (by decide) (hts (.fieldLink RX9 76 "BlockLogModel" "area" "I") (by decide +kernel)) (fun _ h9 => h9) rfl dX9_in_224 ?_
                              refine lv_iconst (v := 0) hx hb dX9_in_227 (by decide) ?_
                              refine vp_callSi (va_Run.run (va_runV (As := [.int (st 7), .int (0 : Int32)]) (rest := [.ref o]) ⟨hx, hb, hml, hown, hts⟩ (v_X9_rowPlace l dC dI o c kc (rU (rU (rU (rU (rU (rU (rU (rU st 3 s3_155) 4 s4_155) 5 s5_155) 6 s6_155) 9 (0 : Int32)) 12 s12_155) 13 (0 : Int32)) 37 x37_11) lg (rU (rU (rU (rU (rU ai 0 a0_155) 14 f14_30) 33 f33_11) 34 f34_11) 35 f35_11) (rU al 36 b36_155) (st 7) (0 : Int32) (by omega) (by omega) (by omega) (by omega)) (cwV 2 hts gX9_in_X9_rowPlace rfl rfl rfl (by decide +kernel) ⟨Nat.le_of_ble_eq_true rfl, Nat.le_of_ble_eq_true rfl⟩) ⟨fun a U g mk q => by obtain ⟨q0, qP, qK⟩ := q; exact ⟨q0, qP, va_K.moved (u := U) (U := U.calling g mk a) (Vm.Alike.refl U.vm) qK⟩, va_recv hK hP (ci := 11) (q := (RX9, TX9, 38)) rfl (q0 := 0) rfl, fun U hU hW => ⟨rfl, by rw [hU]; exact hP, va_K.moved hW.alike hK⟩⟩ rfl rfl hl.1 rfl (lv_room (Nat.le_of_ble_eq_true rfl)) dX9_in_228 ⟨Nat.le_of_ble_eq_true rfl, Nat.le_of_ble_eq_true rfl⟩)) (fun r_31 er_31 => ?_)
                              have k_32 := er_31
                              refine lv_bipush (v := 32) hx hb dX9_in_231 (by decide) ?_
                              have hFc := vfree (rw_D hD : va_D A (rw_W o c kc (rU (rU (rU (rU (rU (rU (rU (rU st 3 s3_155) 4 s4_155) 5 s5_155) 6 s6_155) 9 (0 : Int32)) 12 s12_155) 13 (0 : Int32)) 37 x37_11) lg (rU (rU (rU (rU (rU ai 0 a0_155) 14 f14_30) 33 f33_11) 34 f34_11) 35 f35_11) (rU al 36 b36_155))) hS hA
                              refine va_callv (va_runV (As := [.int r_31, .int (32 : Int32)]) (rest := []) ⟨hx, hb, hml, hown, hts⟩ (v_X9_writeFresh l dC dI o c kc (rU (rU (rU (rU (rU (rU (rU (rU st 3 s3_155) 4 s4_155) 5 s5_155) 6 s6_155) 9 (0 : Int32)) 12 s12_155) 13 (0 : Int32)) 37 x37_11) lg (rU (rU (rU (rU (rU ai 0 a0_155) 14 f14_30) 33 f33_11) 34 f34_11) 35 f35_11) (rU al 36 b36_155) r_31 (32 : Int32) _ (show 0 ≤ s3_155.toInt by omega) (show s3_155.toInt ≤ 1 by omega) (show 0 ≤ s6_155.toInt by omega) (show s6_155.toInt ≤ 1 by omega) (show 0 ≤ s12_155.toInt by omega) (show s12_155.toInt ≤ 8 by omega) (by omega) (by omega) (by omega) (by omega)) (cwV 2 hts gX9_in_X9_writeFresh rfl rfl rfl (by decide +kernel) ⟨Nat.le_of_ble_eq_true rfl, Nat.le_of_ble_eq_true rfl⟩) ⟨fun a U g mk q => by obtain ⟨q0, q1, qP, qK, qD⟩ := q; exact ⟨q0, q1, qP, va_K.moved (u := U) (U := U.calling g mk a) (Vm.Alike.refl U.vm) qK, qD⟩, va_recv hK hP (ci := 11) (q := (RX9, TX9, 38)) rfl (q0 := 0) rfl, fun U hU hW => ⟨rfl, by rw [hU], by rw [hU]; exact hP, va_K.moved hW.alike hK, rw_D (hD.weaken (fun _ _ _ _ => trivial))⟩⟩ rfl rfl hl.1 rfl (lv_room (Nat.le_of_ble_eq_true rfl)) dX9_in_233 ⟨Nat.le_of_ble_eq_true rfl, Nat.le_of_ble_eq_true rfl⟩) hS (fun q _ h => hFc q h) hFc (fun ur_33 t H1 locs ht hvm er_33 hB hz1 hk1 hS => ?_)
                              obtain ⟨x3_33, x4_33, x5_33, x6_33, x12_33, f0_33, k_34, k_35, k_36, k_37, k_38, k_39, hP1⟩ := hB
                              rw [ht] at hP1
                              clear hFc hz1 hk1 hvm hP
                              subst ht
                              have hP := hP1
                              clear hP1
                              generalize t.heap = H at hP hS ⊢
                              have hP : va_P (dC, dI) vwCl (rw_W o c kc (rU (rU (rU (rU (rU (rU (rU (rU st 3 x3_33) 4 x4_33) 5 x5_33) 6 x6_33) 9 (0 : Int32)) 12 x12_33) 13 (0 : Int32)) 37 x37_11) lg (rU (rU (rU (rU (rU ai 0 f0_33) 14 f14_30) 33 f33_11) 34 f34_11) 35 f35_11) (rU al 36 b36_155)) H := hP
                              have k_34 : 0 ≤ x3_33.toInt := k_34
                              have k_35 : x3_33.toInt ≤ 1 := k_35
                              have k_36 : 0 ≤ x6_33.toInt := k_36
                              have k_37 : x6_33.toInt ≤ 1 := k_37
                              have k_38 : 0 ≤ x12_33.toInt := k_38
                              have k_39 : x12_33.toInt ≤ 8 := k_39
                              refine lv_iconst (v := 0) hx hb dX9_in_236 (by decide) ?_
                              refine lv_istore (lv' := [(5, .int (0 : Int32)), (3, .long r_28), (2, .int v_27), (1, .int l1_59), (0, .ref o)]) hx hb dX9_in_237 hl (by decide) rfl (fun ls hl => ?_)
                              have loop239 : ∀ (n : Nat) (l5_239 : Int32) (s3_239 : Int32) (s4_239 : Int32) (s5_239 : Int32) (s6_239 : Int32) (s12_239 : Int32) (a0_239 : Nat → Int32) (a14_239 : Nat → Int32) (H : Heap) (locs : List Loc) (ls : Array Slot), (0 ≤ l5_239.toInt) → (l5_239.toInt ≤ x37_11.toInt) → (0 ≤ s3_239.toInt) → (s3_239.toInt ≤ 1) → (0 ≤ s6_239.toInt) → (s6_239.toInt ≤ 1) → (0 ≤ s12_239.toInt) → (s12_239.toInt ≤ 8) → (x37_11.toInt - l5_239.toInt : Int).toNat < n → va_P (dC, dI) vwCl (rw_W o c kc (rU (rU (rU (rU (rU (rU (rU (rU st 3 s3_239) 4 s4_239) 5 s5_239) 6 s6_239) 9 (0 : Int32)) 12 s12_239) 13 (0 : Int32)) 37 x37_11) lg (rU (rU (rU (rU (rU ai 0 a0_239) 14 a14_239) 33 f33_11) 34 f34_11) 35 f35_11) (rU al 36 b36_155)) H → va_S A s.heap H locs → lv_has ls 6 [(5, .int l5_239), (3, .long r_28), (2, .int v_27), (1, .int l1_59), (0, .ref o)] → W p l e (headSpec wsX9_in ({ frames := 6, cells := 0, slots := 0, locals := 139 })).room s m ([.ref o] : List Value).toArray below meth cM H locs 0 0 (MQ below (va_Qi (fun r (u : Int32) => r = u) (fun u t => ∃ (x3 : Int32) (x4 : Int32) (x5 : Int32) (x6 : Int32) (x9 : Int32) (x12 : Int32) (x13 : Int32) (x15 : Int32) (x37 : Int32) (f0 : Nat → Int32) (f14 : Nat → Int32) (f33 : Nat → Int32) (f34 : Nat → Int32) (f35 : Nat → Int32) (g36 : Nat → Int64), (0 ≤ x3.toInt) ∧ (x3.toInt ≤ 1) ∧ (0 ≤ x6.toInt) ∧ (x6.toInt ≤ 1) ∧ (0 ≤ x9.toInt) ∧ (x9.toInt ≤ 400) ∧ (0 ≤ x12.toInt) ∧ (x12.toInt ≤ 8) ∧ (0 ≤ x15.toInt) ∧ (x15.toInt ≤ 128) ∧ (0 ≤ x37.toInt) ∧ (x37.toInt ≤ 255) ∧ (aR f35 16 (0) 255) ∧ va_P (dC, dI) vwCl (rw_W o c kc (rU (rU (rU (rU (rU (rU (rU (rU (rU st 3 x3) 4 x4) 5 x5) 6 x6) 9 x9) 12 x12) 13 x13) 15 x15) 37 x37) lg (rU (rU (rU (rU (rU ai 0 f0) 14 f14) 33 f33) 34 f34) 35 f35) (rU al 36 g36)) t.heap) A) ([.ref o] : List Value).toArray s 0 0 A) (F0 m 239 ls []) := by
                                intro n
                                induction n with
                                | zero => intro l5_239 s3_239 s4_239 s5_239 s6_239 s12_239 a0_239 a14_239 H locs ls if0_239 if1_239 if2_239 if3_239 if4_239 if5_239 if6_239 if7_239 hm; exact absurd hm (Nat.not_lt_zero _)
                                | succ n ih239 =>
                                  intro l5_239 s3_239 s4_239 s5_239 s6_239 s12_239 a0_239 a14_239 H locs ls if0_239 if1_239 if2_239 if3_239 if4_239 if5_239 if6_239 if7_239 hm239 hP hS hl
                                  refine lv_iload hx hb dX9_in_239 (lv_at hl 0 rfl) ?_
                                  refine lv_aload_n hx hb dX9_in_241 rfl (lv_at hl 4 rfl) ?_
                                  refine va_get (D := (dC, dI)) (ci := 11) (v := .int x37_11) (C := RX9) (T := TX9) (N := 38) hx hb hts hin9 hown hK hP 0 rfl rfl 37 (by decide) (hts (.fieldLink RX9 362 "BlockLogModel" "inMany" "I") (by decide +kernel)) (fun _ h9 => h9) rfl dX9_in_242 ?_
                                  refine lv_icmp_ge (tgt := 292) hx hb dX9_in_245 (by decide) (fun c_40 => ?_) (fun c_40 => ?_)
                                  · skip
                                    have ic_40 := iv_le c_40
                                    refine lv_aload_n hx hb dX9_in_292 rfl (lv_at hl 4 rfl) ?_
                                    refine lv_iconst (v := 1) hx hb dX9_in_293 (by decide) ?_
                                    refine lv_aload_n hx hb dX9_in_294 rfl (lv_at hl 4 rfl) ?_
                                    refine va_get (D := (dC, dI)) (ci := 11) (v := .int x37_11) (C := RX9) (T := TX9) (N := 38) hx hb hts hin9 hown hK hP 0 rfl rfl 37 (by decide) (hts (.fieldLink RX9 362 "BlockLogModel" "inMany" "I") (by decide +kernel)) (fun _ h9 => h9) rfl dX9_in_295 ?_
                                    refine lv_iadd hx hb dX9_in_298 ?_
                                    refine lv_topi (fun v_41 ev_41 => ?_)
                                    have rg1 := iv_rng x37_11
                                    have hv_41 : v_41.toInt = 1 + x37_11.toInt := by rw [ev_41]; exact (iv_add (by omega) (by omega)).trans (by omega)
                                    clear ev_41
                                    refine va_put (D := (dC, dI)) (ci := 11) (v := .int v_41) (ty := .int) (C := RX9) (T := TX9) (N := 38) hx hb hts hin9 tyX9 tyX9_ok nmX9 hown hK hP (rw_D hD) hS 0 rfl rfl 15 (by decide) (hts (.fieldLink RX9 157 "BlockLogModel" "rowsNow" "I") (by decide +kernel)) (fun _ h9 => h9) rfl (by decide +kernel) rfl rfl (Nat.le_of_ble_eq_true rfl) dX9_in_299 (fun H locs hP _ hS => ?_)
                                    have hP : va_P (dC, dI) vwCl (rw_W o c kc (rU (rU (rU (rU (rU (rU (rU (rU (rU st 3 s3_239) 4 s4_239) 5 s5_239) 6 s6_239) 9 (0 : Int32)) 12 s12_239) 13 (0 : Int32)) 15 v_41) 37 x37_11) lg (rU (rU (rU (rU (rU ai 0 a0_239) 14 a14_239) 33 f33_11) 34 f34_11) 35 f35_11) (rU al 36 b36_155)) H := hP
                                    refine lv_aload_n hx hb dX9_in_302 rfl (lv_at hl 4 rfl) ?_
                                    refine va_get (D := (dC, dI)) (ci := 11) (v := .int s6_239) (C := RX9) (T := TX9) (N := 38) hx hb hts hin9 hown hK hP 0 rfl rfl 6 (by decide) (hts (.fieldLink RX9 108 "BlockLogModel" "dark" "Z") (by decide +kernel)) (fun _ h9 => h9) rfl dX9_in_303 ?_
                                    refine lv_if_eq (tgt := 314) hx hb dX9_in_306 (by decide) (fun c_42 => ?_) (fun c_42 => ?_)
                                    · skip
                                      have ic_42 := iv_eq c_42
                                      refine lv_iload_n hx hb dX9_in_314 rfl (lv_at hl 2 rfl) ?_
                                      exact W.iret hx hb hr (fun t ht hW => ⟨⟨_, _, rfl, rfl, s3_239, s4_239, s5_239, s6_239, (0 : Int32), s12_239, (0 : Int32), v_41, x37_11, a0_239, a14_239, f33_11, f34_11, f35_11, b36_155, (by omega), (by omega), (by omega), (by omega), (by omega), (by omega), (by omega), (by omega), (by omega), (by omega), (by omega), (by omega), hR35, by rw [ht]; exact hP⟩, hS.F ht⟩) hS.2.2 dX9_in_315
                                    · skip
                                      have ic_42 := iv_ne c_42
                                      refine lv_bipush (v := (-4)) hx hb dX9_in_309 (by decide) ?_
                                      refine lv_goto (tgt := 315) hx hb dX9_in_311 (by decide) ?_
                                      exact W.iret hx hb hr (fun t ht hW => ⟨⟨_, _, rfl, rfl, s3_239, s4_239, s5_239, s6_239, (0 : Int32), s12_239, (0 : Int32), v_41, x37_11, a0_239, a14_239, f33_11, f34_11, f35_11, b36_155, (by omega), (by omega), (by omega), (by omega), (by omega), (by omega), (by omega), (by omega), (by omega), (by omega), (by omega), (by omega), hR35, by rw [ht]; exact hP⟩, hS.F ht⟩) hS.2.2 dX9_in_315
                                  · skip
                                    have ic_40 := iv_nle c_40
                                    refine lv_aload_n hx hb dX9_in_248 rfl (lv_at hl 4 rfl) ?_
                                    refine lv_iconst (v := 3) hx hb dX9_in_249 (by decide) ?_
                                    refine lv_aload_n hx hb dX9_in_250 rfl (lv_at hl 4 rfl) ?_
                                    refine va_get (D := (dC, dI)) (ci := 11) (v := .ref (c 33)) (C := RX9) (T := TX9) (N := 38) hx hb hts hin9 hown hK hP 0 rfl rfl 33 (by decide) (hts (.fieldLink RX9 49 "BlockLogModel" "inSlot" "[I") (by decide +kernel)) (fun _ h9 => h9) rfl dX9_in_251 ?_
                                    refine lv_iload hx hb dX9_in_254 (lv_at hl 0 rfl) ?_
                                    refine va_iald (f := f33_11) hx hb hK hP 13 12 rfl rfl (iv_in (i := l5_239) (by omega) (by omega)) dX9_in_256 ?_
                                    refine lv_topi (fun v_43 ev_43 => ?_)
                                    clear ev_43
                                    refine lv_iconst (v := 0) hx hb dX9_in_257 (by decide) ?_
                                    refine lv_aload_n hx hb dX9_in_258 rfl (lv_at hl 4 rfl) ?_
                                    refine va_get (D := (dC, dI)) (ci := 11) (v := .ref (c 36)) (C := RX9) (T := TX9) (N := 38) hx hb hts hin9 hown hK hP 0 rfl rfl 36 (by decide) (hts (.fieldLink RX9 58 "BlockLogModel" "inDigest" "[J") (by decide +kernel)) (fun _ h9 => h9) rfl dX9_in_259 ?_
                                    refine lv_iload hx hb dX9_in_262 (lv_at hl 0 rfl) ?_
                                    refine va_lald (f := b36_155) hx hb hK hP 16 15 rfl rfl (iv_in (i := l5_239) (by omega) (by omega)) dX9_in_264 ?_
                                    refine lv_topl (fun w_44 ew_44 => ?_)
                                    clear ew_44
                                    have hFc := vfree (rw_D hD : va_D A (rw_W o c kc (rU (rU (rU (rU (rU (rU (rU (rU st 3 s3_239) 4 s4_239) 5 s5_239) 6 s6_239) 9 (0 : Int32)) 12 s12_239) 13 (0 : Int32)) 37 x37_11) lg (rU (rU (rU (rU (rU ai 0 a0_239) 14 a14_239) 33 f33_11) 34 f34_11) 35 f35_11) (rU al 36 b36_155))) hS hA
                                    refine va_callv (va_runV (As := [.int (3 : Int32), .int v_43, .int (0 : Int32), .long w_44]) (rest := []) ⟨hx, hb, hml, hown, hts⟩ (v_X9_layRow l dC dI o c kc (rU (rU (rU (rU (rU (rU (rU (rU st 3 s3_239) 4 s4_239) 5 s5_239) 6 s6_239) 9 (0 : Int32)) 12 s12_239) 13 (0 : Int32)) 37 x37_11) lg (rU (rU (rU (rU (rU ai 0 a0_239) 14 a14_239) 33 f33_11) 34 f34_11) 35 f35_11) (rU al 36 b36_155) (3 : Int32) v_43 (0 : Int32) w_44 _ ) (cwV 4 hts gX9_in_X9_layRow rfl rfl rfl (by decide +kernel) ⟨Nat.le_of_ble_eq_true rfl, Nat.le_of_ble_eq_true rfl⟩) ⟨fun a U g mk q => by obtain ⟨q0, q1, qP, qK, qD⟩ := q; exact ⟨q0, q1, qP, va_K.moved (u := U) (U := U.calling g mk a) (Vm.Alike.refl U.vm) qK, qD⟩, va_recv hK hP (ci := 11) (q := (RX9, TX9, 38)) rfl (q0 := 0) rfl, fun U hU hW => ⟨rfl, by rw [hU], by rw [hU]; exact hP, va_K.moved hW.alike hK, rw_D (hD.weaken (fun _ _ _ _ => trivial))⟩⟩ rfl rfl hl.1 rfl (lv_room (Nat.le_of_ble_eq_true rfl)) dX9_in_265 ⟨Nat.le_of_ble_eq_true rfl, Nat.le_of_ble_eq_true rfl⟩) hS (fun q _ h => hFc q h) hFc (fun ur_45 t H1 locs ht hvm er_45 hB hz1 hk1 hS => ?_)
                                    obtain ⟨f14_45, hP1⟩ := hB
                                    rw [ht] at hP1
                                    clear hFc hz1 hk1 hvm hP
                                    subst ht
                                    have hP := hP1
                                    clear hP1
                                    generalize t.heap = H at hP hS ⊢
                                    have hP : va_P (dC, dI) vwCl (rw_W o c kc (rU (rU (rU (rU (rU (rU (rU (rU st 3 s3_239) 4 s4_239) 5 s5_239) 6 s6_239) 9 (0 : Int32)) 12 s12_239) 13 (0 : Int32)) 37 x37_11) lg (rU (rU (rU (rU (rU ai 0 a0_239) 14 f14_45) 33 f33_11) 34 f34_11) 35 f35_11) (rU al 36 b36_155)) H := hP
                                    refine lv_aload_n hx hb dX9_in_268 rfl (lv_at hl 4 rfl) ?_
                                    refine lv_aload_n hx hb dX9_in_269 rfl (lv_at hl 4 rfl) ?_
                                    refine lv_aload_n hx hb dX9_in_270 rfl (lv_at hl 4 rfl) ?_
                                    refine va_get (D := (dC, dI)) (ci := 11) (v := .int (st 7)) (C := RX9) (T := TX9) (N := 38) hx hb hts hin9 hown hK hP 0 rfl rfl 7 (by decide) (hts (.fieldLink RX9 76 "BlockLogModel" "area" "I") (by decide +kernel)) (fun _ h9 => h9) rfl dX9_in_271 ?_
                                    refine lv_iconst (v := 1) hx hb dX9_in_274 (by decide) ?_
                                    refine lv_iload hx hb dX9_in_275 (lv_at hl 0 rfl) ?_
                                    refine lv_iadd hx hb dX9_in_277 ?_
                                    refine lv_topi (fun v_46 ev_46 => ?_)
                                    have rg2 := iv_rng l5_239
                                    have hv_46 : v_46.toInt = 1 + l5_239.toInt := by rw [ev_46]; exact (iv_add (by omega) (by omega)).trans (by omega)
                                    clear ev_46
                                    refine vp_callSi (va_Run.run (va_runV (As := [.int (st 7), .int v_46]) (rest := [.ref o]) ⟨hx, hb, hml, hown, hts⟩ (v_X9_rowPlace l dC dI o c kc (rU (rU (rU (rU (rU (rU (rU (rU st 3 s3_239) 4 s4_239) 5 s5_239) 6 s6_239) 9 (0 : Int32)) 12 s12_239) 13 (0 : Int32)) 37 x37_11) lg (rU (rU (rU (rU (rU ai 0 a0_239) 14 f14_45) 33 f33_11) 34 f34_11) 35 f35_11) (rU al 36 b36_155) (st 7) v_46 (by omega) (by omega) (by omega) (by omega)) (cwV 2 hts gX9_in_X9_rowPlace rfl rfl rfl (by decide +kernel) ⟨Nat.le_of_ble_eq_true rfl, Nat.le_of_ble_eq_true rfl⟩) ⟨fun a U g mk q => by obtain ⟨q0, qP, qK⟩ := q; exact ⟨q0, qP, va_K.moved (u := U) (U := U.calling g mk a) (Vm.Alike.refl U.vm) qK⟩, va_recv hK hP (ci := 11) (q := (RX9, TX9, 38)) rfl (q0 := 0) rfl, fun U hU hW => ⟨rfl, by rw [hU]; exact hP, va_K.moved hW.alike hK⟩⟩ rfl rfl hl.1 rfl (lv_room (Nat.le_of_ble_eq_true rfl)) dX9_in_278 ⟨Nat.le_of_ble_eq_true rfl, Nat.le_of_ble_eq_true rfl⟩)) (fun r_47 er_47 => ?_)
                                    have k_48 := er_47
                                    refine lv_bipush (v := 32) hx hb dX9_in_281 (by decide) ?_
                                    have hFc := vfree (rw_D hD : va_D A (rw_W o c kc (rU (rU (rU (rU (rU (rU (rU (rU st 3 s3_239) 4 s4_239) 5 s5_239) 6 s6_239) 9 (0 : Int32)) 12 s12_239) 13 (0 : Int32)) 37 x37_11) lg (rU (rU (rU (rU (rU ai 0 a0_239) 14 f14_45) 33 f33_11) 34 f34_11) 35 f35_11) (rU al 36 b36_155))) hS hA
                                    refine va_callv (va_runV (As := [.int r_47, .int (32 : Int32)]) (rest := []) ⟨hx, hb, hml, hown, hts⟩ (v_X9_writeFresh l dC dI o c kc (rU (rU (rU (rU (rU (rU (rU (rU st 3 s3_239) 4 s4_239) 5 s5_239) 6 s6_239) 9 (0 : Int32)) 12 s12_239) 13 (0 : Int32)) 37 x37_11) lg (rU (rU (rU (rU (rU ai 0 a0_239) 14 f14_45) 33 f33_11) 34 f34_11) 35 f35_11) (rU al 36 b36_155) r_47 (32 : Int32) _ (show 0 ≤ s3_239.toInt by omega) (show s3_239.toInt ≤ 1 by omega) (show 0 ≤ s6_239.toInt by omega) (show s6_239.toInt ≤ 1 by omega) (show 0 ≤ s12_239.toInt by omega) (show s12_239.toInt ≤ 8 by omega) (by omega) (by omega) (by omega) (by omega)) (cwV 2 hts gX9_in_X9_writeFresh rfl rfl rfl (by decide +kernel) ⟨Nat.le_of_ble_eq_true rfl, Nat.le_of_ble_eq_true rfl⟩) ⟨fun a U g mk q => by obtain ⟨q0, q1, qP, qK, qD⟩ := q; exact ⟨q0, q1, qP, va_K.moved (u := U) (U := U.calling g mk a) (Vm.Alike.refl U.vm) qK, qD⟩, va_recv hK hP (ci := 11) (q := (RX9, TX9, 38)) rfl (q0 := 0) rfl, fun U hU hW => ⟨rfl, by rw [hU], by rw [hU]; exact hP, va_K.moved hW.alike hK, rw_D (hD.weaken (fun _ _ _ _ => trivial))⟩⟩ rfl rfl hl.1 rfl (lv_room (Nat.le_of_ble_eq_true rfl)) dX9_in_283 ⟨Nat.le_of_ble_eq_true rfl, Nat.le_of_ble_eq_true rfl⟩) hS (fun q _ h => hFc q h) hFc (fun ur_49 t H1 locs ht hvm er_49 hB hz1 hk1 hS => ?_)
                                    obtain ⟨x3_49, x4_49, x5_49, x6_49, x12_49, f0_49, k_50, k_51, k_52, k_53, k_54, k_55, hP1⟩ := hB
                                    rw [ht] at hP1
                                    clear hFc hz1 hk1 hvm hP
                                    subst ht
                                    have hP := hP1
                                    clear hP1
                                    generalize t.heap = H at hP hS ⊢
                                    have hP : va_P (dC, dI) vwCl (rw_W o c kc (rU (rU (rU (rU (rU (rU (rU (rU st 3 x3_49) 4 x4_49) 5 x5_49) 6 x6_49) 9 (0 : Int32)) 12 x12_49) 13 (0 : Int32)) 37 x37_11) lg (rU (rU (rU (rU (rU ai 0 f0_49) 14 f14_45) 33 f33_11) 34 f34_11) 35 f35_11) (rU al 36 b36_155)) H := hP
                                    have k_50 : 0 ≤ x3_49.toInt := k_50
                                    have k_51 : x3_49.toInt ≤ 1 := k_51
                                    have k_52 : 0 ≤ x6_49.toInt := k_52
                                    have k_53 : x6_49.toInt ≤ 1 := k_53
                                    have k_54 : 0 ≤ x12_49.toInt := k_54
                                    have k_55 : x12_49.toInt ≤ 8 := k_55
                                    obtain ⟨x_56, ex_56⟩ : ∃ z : Int32, z = l5_239 + (1) := ⟨_, rfl⟩
                                    refine lv_iinc (v := x_56) (lv' := [(5, .int x_56), (3, .long r_28), (2, .int v_27), (1, .int l1_59), (0, .ref o)]) hx hb dX9_in_286 hl (k := 0) rfl (by rw [ex_56]; rfl) (by decide) rfl (fun ls hl => ?_)
                                    have hx_56 : x_56.toInt = l5_239.toInt + (1) := by rw [ex_56]; exact (iv_add (by omega) (by omega)).trans (by omega)
                                    clear ex_56
                                    refine lv_goto (tgt := 239) hx hb dX9_in_289 (by decide) ?_
                                    exact ih239 x_56 x3_49 x4_49 x5_49 x6_49 x12_49 f0_49 f14_45 _ _ _ (by omega) (by omega) (by omega) (by omega) (by omega) (by omega) (by omega) (by omega) (by omega) hP hS (lv_sub hl [0, 1, 2, 3, 4] rfl)
                              exact loop239 ((x37_11.toInt - 0 : Int).toNat + 1) (0 : Int32) x3_33 x4_33 x5_33 x6_33 x12_33 f0_33 f14_30 _ _ _ (by omega) (by omega) (by omega) (by omega) (by omega) (by omega) (by omega) (by omega) (by omega) hP hS (lv_sub hl [0, 1, 2, 3, 4] rfl)
                            · skip
                              have ic_29 := iv_nle c_29
                              refine lv_aload_n hx hb dX9_in_164 rfl (lv_at hl 4 rfl) ?_
                              refine va_get (D := (dC, dI)) (ci := 11) (v := .int s6_155) (C := RX9) (T := TX9) (N := 38) hx hb hts hin9 hown hK hP 0 rfl rfl 6 (by decide) (hts (.fieldLink RX9 108 "BlockLogModel" "dark" "Z") (by decide +kernel)) (fun _ h9 => h9) rfl dX9_in_165 ?_
                              refine lv_if_ne (tgt := 205) hx hb dX9_in_168 (by decide) (fun c_57 => ?_) (fun c_57 => ?_)
                              · skip
                                have ic_57 := iv_ne c_57
                                refine lv_aload_n hx hb dX9_in_205 rfl (lv_at hl 4 rfl) ?_
                                refine lv_iconst (v := 0) hx hb dX9_in_206 (by decide) ?_
                                refine va_put (D := (dC, dI)) (ci := 11) (v := .int (0 : Int32)) (ty := .int) (C := RX9) (T := TX9) (N := 38) hx hb hts hin9 tyX9 tyX9_ok nmX9 hown hK hP (rw_D hD) hS 0 rfl rfl 9 (by decide) (hts (.fieldLink RX9 271 "BlockLogModel" "tapeSize" "I") (by decide +kernel)) (fun _ h9 => h9) rfl (by decide +kernel) rfl rfl (Nat.le_of_ble_eq_true rfl) dX9_in_207 (fun H locs hP _ hS => ?_)
                                have hP : va_P (dC, dI) vwCl (rw_W o c kc (rU (rU (rU (rU (rU (rU (rU (rU st 3 s3_155) 4 s4_155) 5 s5_155) 6 s6_155) 9 (0 : Int32)) 12 s12_155) 13 (0 : Int32)) 37 x37_11) lg (rU (rU (rU (rU (rU ai 0 a0_155) 14 a14_155) 33 f33_11) 34 f34_11) 35 f35_11) (rU al 36 b36_155)) H := hP
                                refine lv_aload_n hx hb dX9_in_210 rfl (lv_at hl 4 rfl) ?_
                                refine lv_iconst (v := 5) hx hb dX9_in_211 (by decide) ?_
                                refine lv_iload_n hx hb dX9_in_212 rfl (lv_at hl 2 rfl) ?_
                                refine lv_aload_n hx hb dX9_in_213 rfl (lv_at hl 4 rfl) ?_
                                refine va_get (D := (dC, dI)) (ci := 11) (v := .int x37_11) (C := RX9) (T := TX9) (N := 38) hx hb hts hin9 hown hK hP 0 rfl rfl 37 (by decide) (hts (.fieldLink RX9 362 "BlockLogModel" "inMany" "I") (by decide +kernel)) (fun _ h9 => h9) rfl dX9_in_214 ?_
                                refine lv_lload_n hx hb dX9_in_217 rfl (lv_at hl 1 rfl) ?_
                                have hFc := vfree (rw_D hD : va_D A (rw_W o c kc (rU (rU (rU (rU (rU (rU (rU (rU st 3 s3_155) 4 s4_155) 5 s5_155) 6 s6_155) 9 (0 : Int32)) 12 s12_155) 13 (0 : Int32)) 37 x37_11) lg (rU (rU (rU (rU (rU ai 0 a0_155) 14 a14_155) 33 f33_11) 34 f34_11) 35 f35_11) (rU al 36 b36_155))) hS hA
                                refine va_callv (va_runV (As := [.int (5 : Int32), .int v_27, .int x37_11, .long r_28]) (rest := []) ⟨hx, hb, hml, hown, hts⟩ (v_X9_layRow l dC dI o c kc (rU (rU (rU (rU (rU (rU (rU (rU st 3 s3_155) 4 s4_155) 5 s5_155) 6 s6_155) 9 (0 : Int32)) 12 s12_155) 13 (0 : Int32)) 37 x37_11) lg (rU (rU (rU (rU (rU ai 0 a0_155) 14 a14_155) 33 f33_11) 34 f34_11) 35 f35_11) (rU al 36 b36_155) (5 : Int32) v_27 x37_11 r_28 _ ) (cwV 4 hts gX9_in_X9_layRow rfl rfl rfl (by decide +kernel) ⟨Nat.le_of_ble_eq_true rfl, Nat.le_of_ble_eq_true rfl⟩) ⟨fun a U g mk q => by obtain ⟨q0, q1, qP, qK, qD⟩ := q; exact ⟨q0, q1, qP, va_K.moved (u := U) (U := U.calling g mk a) (Vm.Alike.refl U.vm) qK, qD⟩, va_recv hK hP (ci := 11) (q := (RX9, TX9, 38)) rfl (q0 := 0) rfl, fun U hU hW => ⟨rfl, by rw [hU], by rw [hU]; exact hP, va_K.moved hW.alike hK, rw_D (hD.weaken (fun _ _ _ _ => trivial))⟩⟩ rfl rfl hl.1 rfl (lv_room (Nat.le_of_ble_eq_true rfl)) dX9_in_218 ⟨Nat.le_of_ble_eq_true rfl, Nat.le_of_ble_eq_true rfl⟩) hS (fun q _ h => hFc q h) hFc (fun ur_58 t H1 locs ht hvm er_58 hB hz1 hk1 hS => ?_)
                                obtain ⟨f14_58, hP1⟩ := hB
                                rw [ht] at hP1
                                clear hFc hz1 hk1 hvm hP
                                subst ht
                                have hP := hP1
                                clear hP1
                                generalize t.heap = H at hP hS ⊢
                                have hP : va_P (dC, dI) vwCl (rw_W o c kc (rU (rU (rU (rU (rU (rU (rU (rU st 3 s3_155) 4 s4_155) 5 s5_155) 6 s6_155) 9 (0 : Int32)) 12 s12_155) 13 (0 : Int32)) 37 x37_11) lg (rU (rU (rU (rU (rU ai 0 a0_155) 14 f14_58) 33 f33_11) 34 f34_11) 35 f35_11) (rU al 36 b36_155)) H := hP
                                refine lv_aload_n hx hb dX9_in_221 rfl (lv_at hl 4 rfl) ?_
                                refine lv_aload_n hx hb dX9_in_222 rfl (lv_at hl 4 rfl) ?_
                                refine lv_aload_n hx hb dX9_in_223 rfl (lv_at hl 4 rfl) ?_
                                refine va_get (D := (dC, dI)) (ci := 11) (v := .int (st 7)) (C := RX9) (T := TX9) (N := 38) hx hb hts hin9 hown hK hP 0 rfl rfl 7 (by decide) (hts (.fieldLink RX9 76 "BlockLogModel" "area" "I") (by decide +kernel)) (fun _ h9 => h9) rfl dX9_in_224 ?_
                                refine lv_iconst (v := 0) hx hb dX9_in_227 (by decide) ?_
                                refine vp_callSi (va_Run.run (va_runV (As := [.int (st 7), .int (0 : Int32)]) (rest := [.ref o]) ⟨hx, hb, hml, hown, hts⟩ (v_X9_rowPlace l dC dI o c kc (rU (rU (rU (rU (rU (rU (rU (rU st 3 s3_155) 4 s4_155) 5 s5_155) 6 s6_155) 9 (0 : Int32)) 12 s12_155) 13 (0 : Int32)) 37 x37_11) lg (rU (rU (rU (rU (rU ai 0 a0_155) 14 f14_58) 33 f33_11) 34 f34_11) 35 f35_11) (rU al 36 b36_155) (st 7) (0 : Int32) (by omega) (by omega) (by omega) (by omega)) (cwV 2 hts gX9_in_X9_rowPlace rfl rfl rfl (by decide +kernel) ⟨Nat.le_of_ble_eq_true rfl, Nat.le_of_ble_eq_true rfl⟩) ⟨fun a U g mk q => by obtain ⟨q0, qP, qK⟩ := q; exact ⟨q0, qP, va_K.moved (u := U) (U := U.calling g mk a) (Vm.Alike.refl U.vm) qK⟩, va_recv hK hP (ci := 11) (q := (RX9, TX9, 38)) rfl (q0 := 0) rfl, fun U hU hW => ⟨rfl, by rw [hU]; exact hP, va_K.moved hW.alike hK⟩⟩ rfl rfl hl.1 rfl (lv_room (Nat.le_of_ble_eq_true rfl)) dX9_in_228 ⟨Nat.le_of_ble_eq_true rfl, Nat.le_of_ble_eq_true rfl⟩)) (fun r_59 er_59 => ?_)
                                have k_60 := er_59
                                refine lv_bipush (v := 32) hx hb dX9_in_231 (by decide) ?_
                                have hFc := vfree (rw_D hD : va_D A (rw_W o c kc (rU (rU (rU (rU (rU (rU (rU (rU st 3 s3_155) 4 s4_155) 5 s5_155) 6 s6_155) 9 (0 : Int32)) 12 s12_155) 13 (0 : Int32)) 37 x37_11) lg (rU (rU (rU (rU (rU ai 0 a0_155) 14 f14_58) 33 f33_11) 34 f34_11) 35 f35_11) (rU al 36 b36_155))) hS hA
                                refine va_callv (va_runV (As := [.int r_59, .int (32 : Int32)]) (rest := []) ⟨hx, hb, hml, hown, hts⟩ (v_X9_writeFresh l dC dI o c kc (rU (rU (rU (rU (rU (rU (rU (rU st 3 s3_155) 4 s4_155) 5 s5_155) 6 s6_155) 9 (0 : Int32)) 12 s12_155) 13 (0 : Int32)) 37 x37_11) lg (rU (rU (rU (rU (rU ai 0 a0_155) 14 f14_58) 33 f33_11) 34 f34_11) 35 f35_11) (rU al 36 b36_155) r_59 (32 : Int32) _ (show 0 ≤ s3_155.toInt by omega) (show s3_155.toInt ≤ 1 by omega) (show 0 ≤ s6_155.toInt by omega) (show s6_155.toInt ≤ 1 by omega) (show 0 ≤ s12_155.toInt by omega) (show s12_155.toInt ≤ 8 by omega) (by omega) (by omega) (by omega) (by omega)) (cwV 2 hts gX9_in_X9_writeFresh rfl rfl rfl (by decide +kernel) ⟨Nat.le_of_ble_eq_true rfl, Nat.le_of_ble_eq_true rfl⟩) ⟨fun a U g mk q => by obtain ⟨q0, q1, qP, qK, qD⟩ := q; exact ⟨q0, q1, qP, va_K.moved (u := U) (U := U.calling g mk a) (Vm.Alike.refl U.vm) qK, qD⟩, va_recv hK hP (ci := 11) (q := (RX9, TX9, 38)) rfl (q0 := 0) rfl, fun U hU hW => ⟨rfl, by rw [hU], by rw [hU]; exact hP, va_K.moved hW.alike hK, rw_D (hD.weaken (fun _ _ _ _ => trivial))⟩⟩ rfl rfl hl.1 rfl (lv_room (Nat.le_of_ble_eq_true rfl)) dX9_in_233 ⟨Nat.le_of_ble_eq_true rfl, Nat.le_of_ble_eq_true rfl⟩) hS (fun q _ h => hFc q h) hFc (fun ur_61 t H1 locs ht hvm er_61 hB hz1 hk1 hS => ?_)
                                obtain ⟨x3_61, x4_61, x5_61, x6_61, x12_61, f0_61, k_62, k_63, k_64, k_65, k_66, k_67, hP1⟩ := hB
                                rw [ht] at hP1
                                clear hFc hz1 hk1 hvm hP
                                subst ht
                                have hP := hP1
                                clear hP1
                                generalize t.heap = H at hP hS ⊢
                                have hP : va_P (dC, dI) vwCl (rw_W o c kc (rU (rU (rU (rU (rU (rU (rU (rU st 3 x3_61) 4 x4_61) 5 x5_61) 6 x6_61) 9 (0 : Int32)) 12 x12_61) 13 (0 : Int32)) 37 x37_11) lg (rU (rU (rU (rU (rU ai 0 f0_61) 14 f14_58) 33 f33_11) 34 f34_11) 35 f35_11) (rU al 36 b36_155)) H := hP
                                have k_62 : 0 ≤ x3_61.toInt := k_62
                                have k_63 : x3_61.toInt ≤ 1 := k_63
                                have k_64 : 0 ≤ x6_61.toInt := k_64
                                have k_65 : x6_61.toInt ≤ 1 := k_65
                                have k_66 : 0 ≤ x12_61.toInt := k_66
                                have k_67 : x12_61.toInt ≤ 8 := k_67
                                refine lv_iconst (v := 0) hx hb dX9_in_236 (by decide) ?_
                                refine lv_istore (lv' := [(5, .int (0 : Int32)), (3, .long r_28), (2, .int v_27), (1, .int l1_59), (0, .ref o)]) hx hb dX9_in_237 hl (by decide) rfl (fun ls hl => ?_)
                                have loop239 : ∀ (n : Nat) (l5_239 : Int32) (s3_239 : Int32) (s4_239 : Int32) (s5_239 : Int32) (s6_239 : Int32) (s12_239 : Int32) (a0_239 : Nat → Int32) (a14_239 : Nat → Int32) (H : Heap) (locs : List Loc) (ls : Array Slot), (0 ≤ l5_239.toInt) → (l5_239.toInt ≤ x37_11.toInt) → (0 ≤ s3_239.toInt) → (s3_239.toInt ≤ 1) → (0 ≤ s6_239.toInt) → (s6_239.toInt ≤ 1) → (0 ≤ s12_239.toInt) → (s12_239.toInt ≤ 8) → (x37_11.toInt - l5_239.toInt : Int).toNat < n → va_P (dC, dI) vwCl (rw_W o c kc (rU (rU (rU (rU (rU (rU (rU (rU st 3 s3_239) 4 s4_239) 5 s5_239) 6 s6_239) 9 (0 : Int32)) 12 s12_239) 13 (0 : Int32)) 37 x37_11) lg (rU (rU (rU (rU (rU ai 0 a0_239) 14 a14_239) 33 f33_11) 34 f34_11) 35 f35_11) (rU al 36 b36_155)) H → va_S A s.heap H locs → lv_has ls 6 [(5, .int l5_239), (3, .long r_28), (2, .int v_27), (1, .int l1_59), (0, .ref o)] → W p l e (headSpec wsX9_in ({ frames := 6, cells := 0, slots := 0, locals := 139 })).room s m ([.ref o] : List Value).toArray below meth cM H locs 0 0 (MQ below (va_Qi (fun r (u : Int32) => r = u) (fun u t => ∃ (x3 : Int32) (x4 : Int32) (x5 : Int32) (x6 : Int32) (x9 : Int32) (x12 : Int32) (x13 : Int32) (x15 : Int32) (x37 : Int32) (f0 : Nat → Int32) (f14 : Nat → Int32) (f33 : Nat → Int32) (f34 : Nat → Int32) (f35 : Nat → Int32) (g36 : Nat → Int64), (0 ≤ x3.toInt) ∧ (x3.toInt ≤ 1) ∧ (0 ≤ x6.toInt) ∧ (x6.toInt ≤ 1) ∧ (0 ≤ x9.toInt) ∧ (x9.toInt ≤ 400) ∧ (0 ≤ x12.toInt) ∧ (x12.toInt ≤ 8) ∧ (0 ≤ x15.toInt) ∧ (x15.toInt ≤ 128) ∧ (0 ≤ x37.toInt) ∧ (x37.toInt ≤ 255) ∧ (aR f35 16 (0) 255) ∧ va_P (dC, dI) vwCl (rw_W o c kc (rU (rU (rU (rU (rU (rU (rU (rU (rU st 3 x3) 4 x4) 5 x5) 6 x6) 9 x9) 12 x12) 13 x13) 15 x15) 37 x37) lg (rU (rU (rU (rU (rU ai 0 f0) 14 f14) 33 f33) 34 f34) 35 f35) (rU al 36 g36)) t.heap) A) ([.ref o] : List Value).toArray s 0 0 A) (F0 m 239 ls []) := by
                                  intro n
                                  induction n with
                                  | zero => intro l5_239 s3_239 s4_239 s5_239 s6_239 s12_239 a0_239 a14_239 H locs ls if0_239 if1_239 if2_239 if3_239 if4_239 if5_239 if6_239 if7_239 hm; exact absurd hm (Nat.not_lt_zero _)
                                  | succ n ih239 =>
                                    intro l5_239 s3_239 s4_239 s5_239 s6_239 s12_239 a0_239 a14_239 H locs ls if0_239 if1_239 if2_239 if3_239 if4_239 if5_239 if6_239 if7_239 hm239 hP hS hl
                                    refine lv_iload hx hb dX9_in_239 (lv_at hl 0 rfl) ?_
                                    refine lv_aload_n hx hb dX9_in_241 rfl (lv_at hl 4 rfl) ?_
                                    refine va_get (D := (dC, dI)) (ci := 11) (v := .int x37_11) (C := RX9) (T := TX9) (N := 38) hx hb hts hin9 hown hK hP 0 rfl rfl 37 (by decide) (hts (.fieldLink RX9 362 "BlockLogModel" "inMany" "I") (by decide +kernel)) (fun _ h9 => h9) rfl dX9_in_242 ?_
                                    refine lv_icmp_ge (tgt := 292) hx hb dX9_in_245 (by decide) (fun c_68 => ?_) (fun c_68 => ?_)
                                    · skip
                                      have ic_68 := iv_le c_68
                                      refine lv_aload_n hx hb dX9_in_292 rfl (lv_at hl 4 rfl) ?_
                                      refine lv_iconst (v := 1) hx hb dX9_in_293 (by decide) ?_
                                      refine lv_aload_n hx hb dX9_in_294 rfl (lv_at hl 4 rfl) ?_
                                      refine va_get (D := (dC, dI)) (ci := 11) (v := .int x37_11) (C := RX9) (T := TX9) (N := 38) hx hb hts hin9 hown hK hP 0 rfl rfl 37 (by decide) (hts (.fieldLink RX9 362 "BlockLogModel" "inMany" "I") (by decide +kernel)) (fun _ h9 => h9) rfl dX9_in_295 ?_
                                      refine lv_iadd hx hb dX9_in_298 ?_
                                      refine lv_topi (fun v_69 ev_69 => ?_)
                                      have rg3 := iv_rng x37_11
                                      have hv_69 : v_69.toInt = 1 + x37_11.toInt := by rw [ev_69]; exact (iv_add (by omega) (by omega)).trans (by omega)
                                      clear ev_69
                                      refine va_put (D := (dC, dI)) (ci := 11) (v := .int v_69) (ty := .int) (C := RX9) (T := TX9) (N := 38) hx hb hts hin9 tyX9 tyX9_ok nmX9 hown hK hP (rw_D hD) hS 0 rfl rfl 15 (by decide) (hts (.fieldLink RX9 157 "BlockLogModel" "rowsNow" "I") (by decide +kernel)) (fun _ h9 => h9) rfl (by decide +kernel) rfl rfl (Nat.le_of_ble_eq_true rfl) dX9_in_299 (fun H locs hP _ hS => ?_)
                                      have hP : va_P (dC, dI) vwCl (rw_W o c kc (rU (rU (rU (rU (rU (rU (rU (rU (rU st 3 s3_239) 4 s4_239) 5 s5_239) 6 s6_239) 9 (0 : Int32)) 12 s12_239) 13 (0 : Int32)) 15 v_69) 37 x37_11) lg (rU (rU (rU (rU (rU ai 0 a0_239) 14 a14_239) 33 f33_11) 34 f34_11) 35 f35_11) (rU al 36 b36_155)) H := hP
                                      refine lv_aload_n hx hb dX9_in_302 rfl (lv_at hl 4 rfl) ?_
                                      refine va_get (D := (dC, dI)) (ci := 11) (v := .int s6_239) (C := RX9) (T := TX9) (N := 38) hx hb hts hin9 hown hK hP 0 rfl rfl 6 (by decide) (hts (.fieldLink RX9 108 "BlockLogModel" "dark" "Z") (by decide +kernel)) (fun _ h9 => h9) rfl dX9_in_303 ?_
                                      refine lv_if_eq (tgt := 314) hx hb dX9_in_306 (by decide) (fun c_70 => ?_) (fun c_70 => ?_)
                                      · skip
                                        have ic_70 := iv_eq c_70
                                        refine lv_iload_n hx hb dX9_in_314 rfl (lv_at hl 2 rfl) ?_
                                        exact W.iret hx hb hr (fun t ht hW => ⟨⟨_, _, rfl, rfl, s3_239, s4_239, s5_239, s6_239, (0 : Int32), s12_239, (0 : Int32), v_69, x37_11, a0_239, a14_239, f33_11, f34_11, f35_11, b36_155, (by omega), (by omega), (by omega), (by omega), (by omega), (by omega), (by omega), (by omega), (by omega), (by omega), (by omega), (by omega), hR35, by rw [ht]; exact hP⟩, hS.F ht⟩) hS.2.2 dX9_in_315
                                      · skip
                                        have ic_70 := iv_ne c_70
                                        refine lv_bipush (v := (-4)) hx hb dX9_in_309 (by decide) ?_
                                        refine lv_goto (tgt := 315) hx hb dX9_in_311 (by decide) ?_
                                        exact W.iret hx hb hr (fun t ht hW => ⟨⟨_, _, rfl, rfl, s3_239, s4_239, s5_239, s6_239, (0 : Int32), s12_239, (0 : Int32), v_69, x37_11, a0_239, a14_239, f33_11, f34_11, f35_11, b36_155, (by omega), (by omega), (by omega), (by omega), (by omega), (by omega), (by omega), (by omega), (by omega), (by omega), (by omega), (by omega), hR35, by rw [ht]; exact hP⟩, hS.F ht⟩) hS.2.2 dX9_in_315
                                    · skip
                                      have ic_68 := iv_nle c_68
                                      refine lv_aload_n hx hb dX9_in_248 rfl (lv_at hl 4 rfl) ?_
                                      refine lv_iconst (v := 3) hx hb dX9_in_249 (by decide) ?_
                                      refine lv_aload_n hx hb dX9_in_250 rfl (lv_at hl 4 rfl) ?_
                                      refine va_get (D := (dC, dI)) (ci := 11) (v := .ref (c 33)) (C := RX9) (T := TX9) (N := 38) hx hb hts hin9 hown hK hP 0 rfl rfl 33 (by decide) (hts (.fieldLink RX9 49 "BlockLogModel" "inSlot" "[I") (by decide +kernel)) (fun _ h9 => h9) rfl dX9_in_251 ?_
                                      refine lv_iload hx hb dX9_in_254 (lv_at hl 0 rfl) ?_
                                      refine va_iald (f := f33_11) hx hb hK hP 13 12 rfl rfl (iv_in (i := l5_239) (by omega) (by omega)) dX9_in_256 ?_
                                      refine lv_topi (fun v_71 ev_71 => ?_)
                                      clear ev_71
                                      refine lv_iconst (v := 0) hx hb dX9_in_257 (by decide) ?_
                                      refine lv_aload_n hx hb dX9_in_258 rfl (lv_at hl 4 rfl) ?_
                                      refine va_get (D := (dC, dI)) (ci := 11) (v := .ref (c 36)) (C := RX9) (T := TX9) (N := 38) hx hb hts hin9 hown hK hP 0 rfl rfl 36 (by decide) (hts (.fieldLink RX9 58 "BlockLogModel" "inDigest" "[J") (by decide +kernel)) (fun _ h9 => h9) rfl dX9_in_259 ?_
                                      refine lv_iload hx hb dX9_in_262 (lv_at hl 0 rfl) ?_
                                      refine va_lald (f := b36_155) hx hb hK hP 16 15 rfl rfl (iv_in (i := l5_239) (by omega) (by omega)) dX9_in_264 ?_
                                      refine lv_topl (fun w_72 ew_72 => ?_)
                                      clear ew_72
                                      have hFc := vfree (rw_D hD : va_D A (rw_W o c kc (rU (rU (rU (rU (rU (rU (rU (rU st 3 s3_239) 4 s4_239) 5 s5_239) 6 s6_239) 9 (0 : Int32)) 12 s12_239) 13 (0 : Int32)) 37 x37_11) lg (rU (rU (rU (rU (rU ai 0 a0_239) 14 a14_239) 33 f33_11) 34 f34_11) 35 f35_11) (rU al 36 b36_155))) hS hA
                                      refine va_callv (va_runV (As := [.int (3 : Int32), .int v_71, .int (0 : Int32), .long w_72]) (rest := []) ⟨hx, hb, hml, hown, hts⟩ (v_X9_layRow l dC dI o c kc (rU (rU (rU (rU (rU (rU (rU (rU st 3 s3_239) 4 s4_239) 5 s5_239) 6 s6_239) 9 (0 : Int32)) 12 s12_239) 13 (0 : Int32)) 37 x37_11) lg (rU (rU (rU (rU (rU ai 0 a0_239) 14 a14_239) 33 f33_11) 34 f34_11) 35 f35_11) (rU al 36 b36_155) (3 : Int32) v_71 (0 : Int32) w_72 _ ) (cwV 4 hts gX9_in_X9_layRow rfl rfl rfl (by decide +kernel) ⟨Nat.le_of_ble_eq_true rfl, Nat.le_of_ble_eq_true rfl⟩) ⟨fun a U g mk q => by obtain ⟨q0, q1, qP, qK, qD⟩ := q; exact ⟨q0, q1, qP, va_K.moved (u := U) (U := U.calling g mk a) (Vm.Alike.refl U.vm) qK, qD⟩, va_recv hK hP (ci := 11) (q := (RX9, TX9, 38)) rfl (q0 := 0) rfl, fun U hU hW => ⟨rfl, by rw [hU], by rw [hU]; exact hP, va_K.moved hW.alike hK, rw_D (hD.weaken (fun _ _ _ _ => trivial))⟩⟩ rfl rfl hl.1 rfl (lv_room (Nat.le_of_ble_eq_true rfl)) dX9_in_265 ⟨Nat.le_of_ble_eq_true rfl, Nat.le_of_ble_eq_true rfl⟩) hS (fun q _ h => hFc q h) hFc (fun ur_73 t H1 locs ht hvm er_73 hB hz1 hk1 hS => ?_)
                                      obtain ⟨f14_73, hP1⟩ := hB
                                      rw [ht] at hP1
                                      clear hFc hz1 hk1 hvm hP
                                      subst ht
                                      have hP := hP1
                                      clear hP1
                                      generalize t.heap = H at hP hS ⊢
                                      have hP : va_P (dC, dI) vwCl (rw_W o c kc (rU (rU (rU (rU (rU (rU (rU (rU st 3 s3_239) 4 s4_239) 5 s5_239) 6 s6_239) 9 (0 : Int32)) 12 s12_239) 13 (0 : Int32)) 37 x37_11) lg (rU (rU (rU (rU (rU ai 0 a0_239) 14 f14_73) 33 f33_11) 34 f34_11) 35 f35_11) (rU al 36 b36_155)) H := hP
                                      refine lv_aload_n hx hb dX9_in_268 rfl (lv_at hl 4 rfl) ?_
                                      refine lv_aload_n hx hb dX9_in_269 rfl (lv_at hl 4 rfl) ?_
                                      refine lv_aload_n hx hb dX9_in_270 rfl (lv_at hl 4 rfl) ?_
                                      refine va_get (D := (dC, dI)) (ci := 11) (v := .int (st 7)) (C := RX9) (T := TX9) (N := 38) hx hb hts hin9 hown hK hP 0 rfl rfl 7 (by decide) (hts (.fieldLink RX9 76 "BlockLogModel" "area" "I") (by decide +kernel)) (fun _ h9 => h9) rfl dX9_in_271 ?_
                                      refine lv_iconst (v := 1) hx hb dX9_in_274 (by decide) ?_
                                      refine lv_iload hx hb dX9_in_275 (lv_at hl 0 rfl) ?_
                                      refine lv_iadd hx hb dX9_in_277 ?_
                                      refine lv_topi (fun v_74 ev_74 => ?_)
                                      have rg4 := iv_rng l5_239
                                      have hv_74 : v_74.toInt = 1 + l5_239.toInt := by rw [ev_74]; exact (iv_add (by omega) (by omega)).trans (by omega)
                                      clear ev_74
                                      refine vp_callSi (va_Run.run (va_runV (As := [.int (st 7), .int v_74]) (rest := [.ref o]) ⟨hx, hb, hml, hown, hts⟩ (v_X9_rowPlace l dC dI o c kc (rU (rU (rU (rU (rU (rU (rU (rU st 3 s3_239) 4 s4_239) 5 s5_239) 6 s6_239) 9 (0 : Int32)) 12 s12_239) 13 (0 : Int32)) 37 x37_11) lg (rU (rU (rU (rU (rU ai 0 a0_239) 14 f14_73) 33 f33_11) 34 f34_11) 35 f35_11) (rU al 36 b36_155) (st 7) v_74 (by omega) (by omega) (by omega) (by omega)) (cwV 2 hts gX9_in_X9_rowPlace rfl rfl rfl (by decide +kernel) ⟨Nat.le_of_ble_eq_true rfl, Nat.le_of_ble_eq_true rfl⟩) ⟨fun a U g mk q => by obtain ⟨q0, qP, qK⟩ := q; exact ⟨q0, qP, va_K.moved (u := U) (U := U.calling g mk a) (Vm.Alike.refl U.vm) qK⟩, va_recv hK hP (ci := 11) (q := (RX9, TX9, 38)) rfl (q0 := 0) rfl, fun U hU hW => ⟨rfl, by rw [hU]; exact hP, va_K.moved hW.alike hK⟩⟩ rfl rfl hl.1 rfl (lv_room (Nat.le_of_ble_eq_true rfl)) dX9_in_278 ⟨Nat.le_of_ble_eq_true rfl, Nat.le_of_ble_eq_true rfl⟩)) (fun r_75 er_75 => ?_)
                                      have k_76 := er_75
                                      refine lv_bipush (v := 32) hx hb dX9_in_281 (by decide) ?_
                                      have hFc := vfree (rw_D hD : va_D A (rw_W o c kc (rU (rU (rU (rU (rU (rU (rU (rU st 3 s3_239) 4 s4_239) 5 s5_239) 6 s6_239) 9 (0 : Int32)) 12 s12_239) 13 (0 : Int32)) 37 x37_11) lg (rU (rU (rU (rU (rU ai 0 a0_239) 14 f14_73) 33 f33_11) 34 f34_11) 35 f35_11) (rU al 36 b36_155))) hS hA
                                      refine va_callv (va_runV (As := [.int r_75, .int (32 : Int32)]) (rest := []) ⟨hx, hb, hml, hown, hts⟩ (v_X9_writeFresh l dC dI o c kc (rU (rU (rU (rU (rU (rU (rU (rU st 3 s3_239) 4 s4_239) 5 s5_239) 6 s6_239) 9 (0 : Int32)) 12 s12_239) 13 (0 : Int32)) 37 x37_11) lg (rU (rU (rU (rU (rU ai 0 a0_239) 14 f14_73) 33 f33_11) 34 f34_11) 35 f35_11) (rU al 36 b36_155) r_75 (32 : Int32) _ (show 0 ≤ s3_239.toInt by omega) (show s3_239.toInt ≤ 1 by omega) (show 0 ≤ s6_239.toInt by omega) (show s6_239.toInt ≤ 1 by omega) (show 0 ≤ s12_239.toInt by omega) (show s12_239.toInt ≤ 8 by omega) (by omega) (by omega) (by omega) (by omega)) (cwV 2 hts gX9_in_X9_writeFresh rfl rfl rfl (by decide +kernel) ⟨Nat.le_of_ble_eq_true rfl, Nat.le_of_ble_eq_true rfl⟩) ⟨fun a U g mk q => by obtain ⟨q0, q1, qP, qK, qD⟩ := q; exact ⟨q0, q1, qP, va_K.moved (u := U) (U := U.calling g mk a) (Vm.Alike.refl U.vm) qK, qD⟩, va_recv hK hP (ci := 11) (q := (RX9, TX9, 38)) rfl (q0 := 0) rfl, fun U hU hW => ⟨rfl, by rw [hU], by rw [hU]; exact hP, va_K.moved hW.alike hK, rw_D (hD.weaken (fun _ _ _ _ => trivial))⟩⟩ rfl rfl hl.1 rfl (lv_room (Nat.le_of_ble_eq_true rfl)) dX9_in_283 ⟨Nat.le_of_ble_eq_true rfl, Nat.le_of_ble_eq_true rfl⟩) hS (fun q _ h => hFc q h) hFc (fun ur_77 t H1 locs ht hvm er_77 hB hz1 hk1 hS => ?_)
                                      obtain ⟨x3_77, x4_77, x5_77, x6_77, x12_77, f0_77, k_78, k_79, k_80, k_81, k_82, k_83, hP1⟩ := hB
                                      rw [ht] at hP1
                                      clear hFc hz1 hk1 hvm hP
                                      subst ht
                                      have hP := hP1
                                      clear hP1
                                      generalize t.heap = H at hP hS ⊢
                                      have hP : va_P (dC, dI) vwCl (rw_W o c kc (rU (rU (rU (rU (rU (rU (rU (rU st 3 x3_77) 4 x4_77) 5 x5_77) 6 x6_77) 9 (0 : Int32)) 12 x12_77) 13 (0 : Int32)) 37 x37_11) lg (rU (rU (rU (rU (rU ai 0 f0_77) 14 f14_73) 33 f33_11) 34 f34_11) 35 f35_11) (rU al 36 b36_155)) H := hP
                                      have k_78 : 0 ≤ x3_77.toInt := k_78
                                      have k_79 : x3_77.toInt ≤ 1 := k_79
                                      have k_80 : 0 ≤ x6_77.toInt := k_80
                                      have k_81 : x6_77.toInt ≤ 1 := k_81
                                      have k_82 : 0 ≤ x12_77.toInt := k_82
                                      have k_83 : x12_77.toInt ≤ 8 := k_83
                                      obtain ⟨x_84, ex_84⟩ : ∃ z : Int32, z = l5_239 + (1) := ⟨_, rfl⟩
                                      refine lv_iinc (v := x_84) (lv' := [(5, .int x_84), (3, .long r_28), (2, .int v_27), (1, .int l1_59), (0, .ref o)]) hx hb dX9_in_286 hl (k := 0) rfl (by rw [ex_84]; rfl) (by decide) rfl (fun ls hl => ?_)
                                      have hx_84 : x_84.toInt = l5_239.toInt + (1) := by rw [ex_84]; exact (iv_add (by omega) (by omega)).trans (by omega)
                                      clear ex_84
                                      refine lv_goto (tgt := 239) hx hb dX9_in_289 (by decide) ?_
                                      exact ih239 x_84 x3_77 x4_77 x5_77 x6_77 x12_77 f0_77 f14_73 _ _ _ (by omega) (by omega) (by omega) (by omega) (by omega) (by omega) (by omega) (by omega) (by omega) hP hS (lv_sub hl [0, 1, 2, 3, 4] rfl)
                                exact loop239 ((x37_11.toInt - 0 : Int).toNat + 1) (0 : Int32) x3_61 x4_61 x5_61 x6_61 x12_61 f0_61 f14_58 _ _ _ (by omega) (by omega) (by omega) (by omega) (by omega) (by omega) (by omega) (by omega) (by omega) hP hS (lv_sub hl [0, 1, 2, 3, 4] rfl)
                              · skip
                                have ic_57 := iv_eq c_57
                                refine lv_aload_n hx hb dX9_in_171 rfl (lv_at hl 4 rfl) ?_
                                refine lv_iload hx hb dX9_in_172 (lv_at hl 0 rfl) ?_
                                have hFc := vfree (rw_D hD : va_D A (rw_W o c kc (rU (rU (rU (rU (rU (rU (rU st 3 s3_155) 4 s4_155) 5 s5_155) 6 s6_155) 12 s12_155) 13 (0 : Int32)) 37 x37_11) lg (rU (rU (rU (rU (rU ai 0 a0_155) 14 a14_155) 33 f33_11) 34 f34_11) 35 f35_11) (rU al 36 b36_155))) hS hA
                                refine va_callv (va_runV (As := [.int l5_155]) (rest := []) ⟨hx, hb, hml, hown, hts⟩ (v_X9_layIn l dC dI o c kc (rU (rU (rU (rU (rU (rU (rU st 3 s3_155) 4 s4_155) 5 s5_155) 6 s6_155) 12 s12_155) 13 (0 : Int32)) 37 x37_11) lg (rU (rU (rU (rU (rU ai 0 a0_155) 14 a14_155) 33 f33_11) 34 f34_11) 35 f35_11) (rU al 36 b36_155) l5_155 _ (show 0 ≤ x37_11.toInt by omega) (show x37_11.toInt ≤ 255 by omega) (by omega) (show l5_155.toInt < x37_11.toInt by omega) (show x37_11.toInt ≤ 16 by omega) (show aR (ai 8) 400 (0) 255 from hR8) (show aR f35_11 16 (0) 255 from hR35) (show inI f34_11 f35_11 x37_11 from (by assumption))) (cwV 1 hts gX9_in_X9_layIn rfl rfl rfl (by decide +kernel) ⟨Nat.le_of_ble_eq_true rfl, Nat.le_of_ble_eq_true rfl⟩) ⟨fun a U g mk q => by obtain ⟨q0, q1, qP, qK, qD⟩ := q; exact ⟨q0, q1, qP, va_K.moved (u := U) (U := U.calling g mk a) (Vm.Alike.refl U.vm) qK, qD⟩, va_recv hK hP (ci := 11) (q := (RX9, TX9, 38)) rfl (q0 := 0) rfl, fun U hU hW => ⟨rfl, by rw [hU], by rw [hU]; exact hP, va_K.moved hW.alike hK, rw_D (hD.weaken (fun _ _ _ _ => trivial))⟩⟩ rfl rfl hl.1 rfl (lv_room (Nat.le_of_ble_eq_true rfl)) dX9_in_174 ⟨Nat.le_of_ble_eq_true rfl, Nat.le_of_ble_eq_true rfl⟩) hS (fun q _ h => hFc q h) hFc (fun ur_85 t H1 locs ht hvm er_85 hB hz1 hk1 hS => ?_)
                                obtain ⟨f14_85, g36_85, hP1⟩ := hB
                                rw [ht] at hP1
                                clear hFc hz1 hk1 hvm hP
                                subst ht
                                have hP := hP1
                                clear hP1
                                generalize t.heap = H at hP hS ⊢
                                have hP : va_P (dC, dI) vwCl (rw_W o c kc (rU (rU (rU (rU (rU (rU (rU st 3 s3_155) 4 s4_155) 5 s5_155) 6 s6_155) 12 s12_155) 13 (0 : Int32)) 37 x37_11) lg (rU (rU (rU (rU (rU ai 0 a0_155) 14 f14_85) 33 f33_11) 34 f34_11) 35 f35_11) (rU al 36 g36_85)) H := hP
                                refine lv_aload_n hx hb dX9_in_177 rfl (lv_at hl 4 rfl) ?_
                                refine vp_callSi (va_Run.run (va_runV (As := []) (rest := []) ⟨hx, hb, hml, hown, hts⟩ (v_X9_sameLeaf l dC dI o c kc (rU (rU (rU (rU (rU (rU (rU st 3 s3_155) 4 s4_155) 5 s5_155) 6 s6_155) 12 s12_155) 13 (0 : Int32)) 37 x37_11) lg (rU (rU (rU (rU (rU ai 0 a0_155) 14 f14_85) 33 f33_11) 34 f34_11) 35 f35_11) (rU al 36 g36_85)  (show 1 ≤ (st 1).toInt by omega) (show (st 1).toInt ≤ 65536 by omega)) (cwV 0 hts gX9_in_X9_sameLeaf rfl rfl rfl (by decide +kernel) ⟨Nat.le_of_ble_eq_true rfl, Nat.le_of_ble_eq_true rfl⟩) ⟨fun a U g mk q => by obtain ⟨q0, qP, qK⟩ := q; exact ⟨q0, qP, va_K.moved (u := U) (U := U.calling g mk a) (Vm.Alike.refl U.vm) qK⟩, va_recv hK hP (ci := 11) (q := (RX9, TX9, 38)) rfl (q0 := 0) rfl, fun U hU hW => ⟨rfl, by rw [hU]; exact hP, va_K.moved hW.alike hK⟩⟩ rfl rfl hl.1 rfl (lv_room (Nat.le_of_ble_eq_true rfl)) dX9_in_178 ⟨Nat.le_of_ble_eq_true rfl, Nat.le_of_ble_eq_true rfl⟩)) (fun r_86 er_86 => ?_)
                                obtain ⟨k_87, k_88⟩ := er_86
                                have k_88 : r_86.toInt < (st 1).toInt := k_88
                                refine lv_iconst (v := (-1)) hx hb dX9_in_181 (by decide) ?_
                                refine lv_icmp_ne (tgt := 199) hx hb dX9_in_182 (by decide) (fun c_89 => ?_) (fun c_89 => ?_)
                                · skip
                                  have ic_89 := iv_ne c_89
                                  obtain ⟨x_90, ex_90⟩ : ∃ z : Int32, z = l5_155 + (1) := ⟨_, rfl⟩
                                  refine lv_iinc (v := x_90) (lv' := [(5, .int x_90), (3, .long r_28), (2, .int v_27), (1, .int l1_59), (0, .ref o)]) hx hb dX9_in_199 hl (k := 0) rfl (by rw [ex_90]; rfl) (by decide) rfl (fun ls hl => ?_)
                                  have rg5 := iv_rng l5_155
                                  have hx_90 : x_90.toInt = l5_155.toInt + (1) := by rw [ex_90]; exact (iv_add (by omega) (by omega)).trans (by omega)
                                  clear ex_90
                                  refine lv_goto (tgt := 155) hx hb dX9_in_202 (by decide) ?_
                                  exact ih155 x_90 s3_155 s4_155 s5_155 s6_155 s12_155 a0_155 f14_85 g36_85 _ _ _ (by omega) (by omega) (by omega) (by omega) (by omega) (by omega) (by omega) (by omega) (by omega) hP hS (lv_sub hl [0, 1, 2, 3, 4] rfl)
                                · skip
                                  have ic_89 := iv_eq c_89
                                  refine lv_aload_n hx hb dX9_in_185 rfl (lv_at hl 4 rfl) ?_
                                  refine lv_aload_n hx hb dX9_in_186 rfl (lv_at hl 4 rfl) ?_
                                  refine lv_aload_n hx hb dX9_in_187 rfl (lv_at hl 4 rfl) ?_
                                  refine vp_callSi (va_Run.run (va_runV (As := []) (rest := [.ref o, .ref o]) ⟨hx, hb, hml, hown, hts⟩ (v_X9_freePage l dC dI o c kc (rU (rU (rU (rU (rU (rU (rU st 3 s3_155) 4 s4_155) 5 s5_155) 6 s6_155) 12 s12_155) 13 (0 : Int32)) 37 x37_11) lg (rU (rU (rU (rU (rU ai 0 a0_155) 14 f14_85) 33 f33_11) 34 f34_11) 35 f35_11) (rU al 36 g36_85)  (show 1 ≤ (st 1).toInt by omega) (show (st 1).toInt ≤ 65536 by omega)) (cwV 0 hts gX9_in_X9_freePage rfl rfl rfl (by decide +kernel) ⟨Nat.le_of_ble_eq_true rfl, Nat.le_of_ble_eq_true rfl⟩) ⟨fun a U g mk q => by obtain ⟨q0, qP, qK⟩ := q; exact ⟨q0, qP, va_K.moved (u := U) (U := U.calling g mk a) (Vm.Alike.refl U.vm) qK⟩, va_recv hK hP (ci := 11) (q := (RX9, TX9, 38)) rfl (q0 := 0) rfl, fun U hU hW => ⟨rfl, by rw [hU]; exact hP, va_K.moved hW.alike hK⟩⟩ rfl rfl hl.1 rfl (lv_room (Nat.le_of_ble_eq_true rfl)) dX9_in_188 ⟨Nat.le_of_ble_eq_true rfl, Nat.le_of_ble_eq_true rfl⟩)) (fun r_91 er_91 => ?_)
                                  obtain ⟨k_92, k_93⟩ := er_91
                                  have k_93 : r_91.toInt < (st 1).toInt := k_93
                                  refine vp_callSi (va_Run.run (va_runV (As := [.int r_91]) (rest := [.ref o]) ⟨hx, hb, hml, hown, hts⟩ (v_X9_pagePlace l dC dI o c kc (rU (rU (rU (rU (rU (rU (rU st 3 s3_155) 4 s4_155) 5 s5_155) 6 s6_155) 12 s12_155) 13 (0 : Int32)) 37 x37_11) lg (rU (rU (rU (rU (rU ai 0 a0_155) 14 f14_85) 33 f33_11) 34 f34_11) 35 f35_11) (rU al 36 g36_85) r_91 (by omega) (by omega)) (cwV 1 hts gX9_in_X9_pagePlace rfl rfl rfl (by decide +kernel) ⟨Nat.le_of_ble_eq_true rfl, Nat.le_of_ble_eq_true rfl⟩) ⟨fun a U g mk q => by obtain ⟨q0, qP, qK⟩ := q; exact ⟨q0, qP, va_K.moved (u := U) (U := U.calling g mk a) (Vm.Alike.refl U.vm) qK⟩, va_recv hK hP (ci := 11) (q := (RX9, TX9, 38)) rfl (q0 := 0) rfl, fun U hU hW => ⟨rfl, by rw [hU]; exact hP, va_K.moved hW.alike hK⟩⟩ rfl rfl hl.1 rfl (lv_room (Nat.le_of_ble_eq_true rfl)) dX9_in_191 ⟨Nat.le_of_ble_eq_true rfl, Nat.le_of_ble_eq_true rfl⟩)) (fun r_94 er_94 => ?_)
                                  have k_95 := er_94
                                  refine lv_bipush (v := 26) hx hb dX9_in_194 (by decide) ?_
                                  have hFc := vfree (rw_D hD : va_D A (rw_W o c kc (rU (rU (rU (rU (rU (rU (rU st 3 s3_155) 4 s4_155) 5 s5_155) 6 s6_155) 12 s12_155) 13 (0 : Int32)) 37 x37_11) lg (rU (rU (rU (rU (rU ai 0 a0_155) 14 f14_85) 33 f33_11) 34 f34_11) 35 f35_11) (rU al 36 g36_85))) hS hA
                                  refine va_callv (va_runV (As := [.int r_94, .int (26 : Int32)]) (rest := []) ⟨hx, hb, hml, hown, hts⟩ (v_X9_writeFresh l dC dI o c kc (rU (rU (rU (rU (rU (rU (rU st 3 s3_155) 4 s4_155) 5 s5_155) 6 s6_155) 12 s12_155) 13 (0 : Int32)) 37 x37_11) lg (rU (rU (rU (rU (rU ai 0 a0_155) 14 f14_85) 33 f33_11) 34 f34_11) 35 f35_11) (rU al 36 g36_85) r_94 (26 : Int32) _ (show 0 ≤ s3_155.toInt by omega) (show s3_155.toInt ≤ 1 by omega) (show 0 ≤ s6_155.toInt by omega) (show s6_155.toInt ≤ 1 by omega) (show 0 ≤ s12_155.toInt by omega) (show s12_155.toInt ≤ 8 by omega) (by omega) (by omega) (by omega) (by omega)) (cwV 2 hts gX9_in_X9_writeFresh rfl rfl rfl (by decide +kernel) ⟨Nat.le_of_ble_eq_true rfl, Nat.le_of_ble_eq_true rfl⟩) ⟨fun a U g mk q => by obtain ⟨q0, q1, qP, qK, qD⟩ := q; exact ⟨q0, q1, qP, va_K.moved (u := U) (U := U.calling g mk a) (Vm.Alike.refl U.vm) qK, qD⟩, va_recv hK hP (ci := 11) (q := (RX9, TX9, 38)) rfl (q0 := 0) rfl, fun U hU hW => ⟨rfl, by rw [hU], by rw [hU]; exact hP, va_K.moved hW.alike hK, rw_D (hD.weaken (fun _ _ _ _ => trivial))⟩⟩ rfl rfl hl.1 rfl (lv_room (Nat.le_of_ble_eq_true rfl)) dX9_in_196 ⟨Nat.le_of_ble_eq_true rfl, Nat.le_of_ble_eq_true rfl⟩) hS (fun q _ h => hFc q h) hFc (fun ur_96 t H1 locs ht hvm er_96 hB hz1 hk1 hS => ?_)
                                  obtain ⟨x3_96, x4_96, x5_96, x6_96, x12_96, f0_96, k_97, k_98, k_99, k_100, k_101, k_102, hP1⟩ := hB
                                  rw [ht] at hP1
                                  clear hFc hz1 hk1 hvm hP
                                  subst ht
                                  have hP := hP1
                                  clear hP1
                                  generalize t.heap = H at hP hS ⊢
                                  have hP : va_P (dC, dI) vwCl (rw_W o c kc (rU (rU (rU (rU (rU (rU (rU st 3 x3_96) 4 x4_96) 5 x5_96) 6 x6_96) 12 x12_96) 13 (0 : Int32)) 37 x37_11) lg (rU (rU (rU (rU (rU ai 0 f0_96) 14 f14_85) 33 f33_11) 34 f34_11) 35 f35_11) (rU al 36 g36_85)) H := hP
                                  have k_97 : 0 ≤ x3_96.toInt := k_97
                                  have k_98 : x3_96.toInt ≤ 1 := k_98
                                  have k_99 : 0 ≤ x6_96.toInt := k_99
                                  have k_100 : x6_96.toInt ≤ 1 := k_100
                                  have k_101 : 0 ≤ x12_96.toInt := k_101
                                  have k_102 : x12_96.toInt ≤ 8 := k_102
                                  obtain ⟨x_103, ex_103⟩ : ∃ z : Int32, z = l5_155 + (1) := ⟨_, rfl⟩
                                  refine lv_iinc (v := x_103) (lv' := [(5, .int x_103), (3, .long r_28), (2, .int v_27), (1, .int l1_59), (0, .ref o)]) hx hb dX9_in_199 hl (k := 0) rfl (by rw [ex_103]; rfl) (by decide) rfl (fun ls hl => ?_)
                                  have rg6 := iv_rng l5_155
                                  have hx_103 : x_103.toInt = l5_155.toInt + (1) := by rw [ex_103]; exact (iv_add (by omega) (by omega)).trans (by omega)
                                  clear ex_103
                                  refine lv_goto (tgt := 155) hx hb dX9_in_202 (by decide) ?_
                                  exact ih155 x_103 x3_96 x4_96 x5_96 x6_96 x12_96 f0_96 f14_85 g36_85 _ _ _ (by omega) (by omega) (by omega) (by omega) (by omega) (by omega) (by omega) (by omega) (by omega) hP hS (lv_sub hl [0, 1, 2, 3, 4] rfl)
                        exact loop155 ((x37_11.toInt - 0 : Int).toNat + 1) (0 : Int32) (st 3) (st 4) (st 5) (st 6) (st 12) (ai 0) a14_59 b36_59 _ _ _ (by omega) (by omega) (by omega) (by omega) (by omega) (by omega) (by omega) (by omega) (by omega) hP hS (lv_sub hl [0, 1, 2, 3, 4] rfl)
                      · skip
                        have ic_25 := iv_nle c_25
                        refine lv_bipush (v := (-2)) hx hb dX9_in_133 (by decide) ?_
                        exact W.iret hx hb hr (fun t ht hW => ⟨⟨_, _, rfl, rfl, st 3, st 4, st 5, st 6, st 9, st 12, (0 : Int32), st 15, x37_11, ai 0, a14_59, f33_11, f34_11, f35_11, b36_59, (by omega), (by omega), (by omega), (by omega), (by omega), (by omega), (by omega), (by omega), (by omega), (by omega), (by omega), (by omega), hR35, by rw [ht]; exact hP⟩, hS.F ht⟩) hS.2.2 dX9_in_135
                    · skip
                      have ic_21 := iv_nle c_21
                      refine lv_iconst (v := 0) hx hb dX9_in_67 (by decide) ?_
                      refine lv_istore_n (lv' := [(3, .int (0 : Int32)), (2, .int l2_59), (1, .int l1_59), (0, .ref o)]) hx hb dX9_in_68 rfl hl (by decide) rfl (fun ls hl => ?_)
                      refine lv_iconst (v := 0) hx hb dX9_in_69 (by decide) ?_
                      refine lv_istore (lv' := [(4, .int (0 : Int32)), (3, .int (0 : Int32)), (2, .int l2_59), (1, .int l1_59), (0, .ref o)]) hx hb dX9_in_70 hl (by decide) rfl (fun ls hl => ?_)
                      have loop72 : ∀ (n : Nat) (l4_72 : Int32) (l3_72 : Int32) (H : Heap) (locs : List Loc) (ls : Array Slot), (0 ≤ l4_72.toInt) → (l4_72.toInt ≤ l2_59.toInt) → (0 ≤ l3_72.toInt) → (l3_72.toInt ≤ 1) → (l2_59.toInt - l4_72.toInt : Int).toNat < n → va_P (dC, dI) vwCl (rw_W o c kc (rU (rU st 13 (0 : Int32)) 37 x37_11) lg (rU (rU (rU (rU ai 14 a14_59) 33 f33_11) 34 f34_11) 35 f35_11) (rU al 36 b36_59)) H → va_S A s.heap H locs → lv_has ls 6 [(4, .int l4_72), (3, .int l3_72), (2, .int l2_59), (1, .int l1_59), (0, .ref o)] → W p l e (headSpec wsX9_in ({ frames := 6, cells := 0, slots := 0, locals := 139 })).room s m ([.ref o] : List Value).toArray below meth cM H locs 0 0 (MQ below (va_Qi (fun r (u : Int32) => r = u) (fun u t => ∃ (x3 : Int32) (x4 : Int32) (x5 : Int32) (x6 : Int32) (x9 : Int32) (x12 : Int32) (x13 : Int32) (x15 : Int32) (x37 : Int32) (f0 : Nat → Int32) (f14 : Nat → Int32) (f33 : Nat → Int32) (f34 : Nat → Int32) (f35 : Nat → Int32) (g36 : Nat → Int64), (0 ≤ x3.toInt) ∧ (x3.toInt ≤ 1) ∧ (0 ≤ x6.toInt) ∧ (x6.toInt ≤ 1) ∧ (0 ≤ x9.toInt) ∧ (x9.toInt ≤ 400) ∧ (0 ≤ x12.toInt) ∧ (x12.toInt ≤ 8) ∧ (0 ≤ x15.toInt) ∧ (x15.toInt ≤ 128) ∧ (0 ≤ x37.toInt) ∧ (x37.toInt ≤ 255) ∧ (aR f35 16 (0) 255) ∧ va_P (dC, dI) vwCl (rw_W o c kc (rU (rU (rU (rU (rU (rU (rU (rU (rU st 3 x3) 4 x4) 5 x5) 6 x6) 9 x9) 12 x12) 13 x13) 15 x15) 37 x37) lg (rU (rU (rU (rU (rU ai 0 f0) 14 f14) 33 f33) 34 f34) 35 f35) (rU al 36 g36)) t.heap) A) ([.ref o] : List Value).toArray s 0 0 A) (F0 m 72 ls []) := by
                        intro n
                        induction n with
                        | zero => intro l4_72 l3_72 H locs ls if0_72 if1_72 if2_72 if3_72 hm; exact absurd hm (Nat.not_lt_zero _)
                        | succ n ih72 =>
                          intro l4_72 l3_72 H locs ls if0_72 if1_72 if2_72 if3_72 hm72 hP hS hl
                          refine lv_iload hx hb dX9_in_72 (lv_at hl 0 rfl) ?_
                          refine lv_iload_n hx hb dX9_in_74 rfl (lv_at hl 2 rfl) ?_
                          refine lv_icmp_ge (tgt := 94) hx hb dX9_in_75 (by decide) (fun c_104 => ?_) (fun c_104 => ?_)
                          · skip
                            have ic_104 := iv_le c_104
                            refine lv_aload_n hx hb dX9_in_94 rfl (lv_at hl 4 rfl) ?_
                            refine lv_iload_n hx hb dX9_in_95 rfl (lv_at hl 2 rfl) ?_
                            have hFc := vfree (rw_D hD : va_D A (rw_W o c kc (rU (rU st 13 (0 : Int32)) 37 x37_11) lg (rU (rU (rU (rU ai 14 a14_59) 33 f33_11) 34 f34_11) 35 f35_11) (rU al 36 b36_59))) hS hA
                            refine va_callv (va_runV (As := [.int l2_59]) (rest := []) ⟨hx, hb, hml, hown, hts⟩ (v_X9_layIn l dC dI o c kc (rU (rU st 13 (0 : Int32)) 37 x37_11) lg (rU (rU (rU (rU ai 14 a14_59) 33 f33_11) 34 f34_11) 35 f35_11) (rU al 36 b36_59) l2_59 _ (show 0 ≤ x37_11.toInt by omega) (show x37_11.toInt ≤ 255 by omega) (by omega) (show l2_59.toInt < x37_11.toInt by omega) (show x37_11.toInt ≤ 16 by omega) (show aR (ai 8) 400 (0) 255 from hR8) (show aR f35_11 16 (0) 255 from hR35) (show inI f34_11 f35_11 x37_11 from (by assumption))) (cwV 1 hts gX9_in_X9_layIn rfl rfl rfl (by decide +kernel) ⟨Nat.le_of_ble_eq_true rfl, Nat.le_of_ble_eq_true rfl⟩) ⟨fun a U g mk q => by obtain ⟨q0, q1, qP, qK, qD⟩ := q; exact ⟨q0, q1, qP, va_K.moved (u := U) (U := U.calling g mk a) (Vm.Alike.refl U.vm) qK, qD⟩, va_recv hK hP (ci := 11) (q := (RX9, TX9, 38)) rfl (q0 := 0) rfl, fun U hU hW => ⟨rfl, by rw [hU], by rw [hU]; exact hP, va_K.moved hW.alike hK, rw_D (hD.weaken (fun _ _ _ _ => trivial))⟩⟩ rfl rfl hl.1 rfl (lv_room (Nat.le_of_ble_eq_true rfl)) dX9_in_96 ⟨Nat.le_of_ble_eq_true rfl, Nat.le_of_ble_eq_true rfl⟩) hS (fun q _ h => hFc q h) hFc (fun ur_105 t H1 locs ht hvm er_105 hB hz1 hk1 hS => ?_)
                            obtain ⟨f14_105, g36_105, hP1⟩ := hB
                            rw [ht] at hP1
                            clear hFc hz1 hk1 hvm hP
                            subst ht
                            have hP := hP1
                            clear hP1
                            generalize t.heap = H at hP hS ⊢
                            have hP : va_P (dC, dI) vwCl (rw_W o c kc (rU (rU st 13 (0 : Int32)) 37 x37_11) lg (rU (rU (rU (rU ai 14 f14_105) 33 f33_11) 34 f34_11) 35 f35_11) (rU al 36 g36_105)) H := hP
                            refine lv_iload_n hx hb dX9_in_99 rfl (lv_at hl 3 rfl) ?_
                            refine lv_iload_n hx hb dX9_in_100 rfl (lv_at hl 1 rfl) ?_
                            refine lv_if_ne (tgt := 112) hx hb dX9_in_101 (by decide) (fun c_106 => ?_) (fun c_106 => ?_)
                            · skip
                              have ic_106 := iv_ne c_106
                              refine lv_iconst (v := 0) hx hb dX9_in_112 (by decide) ?_
                              refine lv_goto (tgt := 117) hx hb dX9_in_113 (by decide) ?_
                              refine lv_iadd hx hb dX9_in_117 ?_
                              refine lv_topi (fun v_107 ev_107 => ?_)
                              have rg7 := iv_rng l1_59
                              have hv_107 : v_107.toInt = l1_59.toInt + 0 := by rw [ev_107]; exact (iv_add (by omega) (by omega)).trans (by omega)
                              clear ev_107
                              refine lv_istore_n (lv' := [(1, .int v_107), (4, .int l4_72), (3, .int l3_72), (2, .int l2_59), (0, .ref o)]) hx hb dX9_in_118 rfl hl (by decide) rfl (fun ls hl => ?_)
                              obtain ⟨x_108, ex_108⟩ : ∃ z : Int32, z = l2_59 + (1) := ⟨_, rfl⟩
                              refine lv_iinc (v := x_108) (lv' := [(2, .int x_108), (1, .int v_107), (4, .int l4_72), (3, .int l3_72), (0, .ref o)]) hx hb dX9_in_119 hl (k := 3) rfl (by rw [ex_108]; rfl) (by decide) rfl (fun ls hl => ?_)
                              have rg8 := iv_rng l2_59
                              have hx_108 : x_108.toInt = l2_59.toInt + (1) := by rw [ex_108]; exact (iv_add (by omega) (by omega)).trans (by omega)
                              clear ex_108
                              refine lv_goto (tgt := 59) hx hb dX9_in_122 (by decide) ?_
                              exact ih59 x_108 v_107 f14_105 g36_105 _ _ _ (by omega) (by omega) (by omega) (by omega) (by omega) hP hS (lv_sub hl [0, 1, 4] rfl)
                            · skip
                              have ic_106 := iv_eq c_106
                              refine lv_aload_n hx hb dX9_in_104 rfl (lv_at hl 4 rfl) ?_
                              refine vp_callSi (va_Run.run (va_runV (As := []) (rest := [.int l1_59]) ⟨hx, hb, hml, hown, hts⟩ (v_X9_sameLeaf l dC dI o c kc (rU (rU st 13 (0 : Int32)) 37 x37_11) lg (rU (rU (rU (rU ai 14 f14_105) 33 f33_11) 34 f34_11) 35 f35_11) (rU al 36 g36_105)  (show 1 ≤ (st 1).toInt by omega) (show (st 1).toInt ≤ 65536 by omega)) (cwV 0 hts gX9_in_X9_sameLeaf rfl rfl rfl (by decide +kernel) ⟨Nat.le_of_ble_eq_true rfl, Nat.le_of_ble_eq_true rfl⟩) ⟨fun a U g mk q => by obtain ⟨q0, qP, qK⟩ := q; exact ⟨q0, qP, va_K.moved (u := U) (U := U.calling g mk a) (Vm.Alike.refl U.vm) qK⟩, va_recv hK hP (ci := 11) (q := (RX9, TX9, 38)) rfl (q0 := 0) rfl, fun U hU hW => ⟨rfl, by rw [hU]; exact hP, va_K.moved hW.alike hK⟩⟩ rfl rfl hl.1 rfl (lv_room (Nat.le_of_ble_eq_true rfl)) dX9_in_105 ⟨Nat.le_of_ble_eq_true rfl, Nat.le_of_ble_eq_true rfl⟩)) (fun r_109 er_109 => ?_)
                              obtain ⟨k_110, k_111⟩ := er_109
                              have k_111 : r_109.toInt < (st 1).toInt := k_111
                              refine lv_iconst (v := (-1)) hx hb dX9_in_108 (by decide) ?_
                              refine lv_icmp_eq (tgt := 116) hx hb dX9_in_109 (by decide) (fun c_112 => ?_) (fun c_112 => ?_)
                              · skip
                                have ic_112 := iv_eq c_112
                                refine lv_iconst (v := 1) hx hb dX9_in_116 (by decide) ?_
                                refine lv_iadd hx hb dX9_in_117 ?_
                                refine lv_topi (fun v_113 ev_113 => ?_)
                                have rg9 := iv_rng l1_59
                                have hv_113 : v_113.toInt = l1_59.toInt + 1 := by rw [ev_113]; exact (iv_add (by omega) (by omega)).trans (by omega)
                                clear ev_113
                                refine lv_istore_n (lv' := [(1, .int v_113), (4, .int l4_72), (3, .int l3_72), (2, .int l2_59), (0, .ref o)]) hx hb dX9_in_118 rfl hl (by decide) rfl (fun ls hl => ?_)
                                obtain ⟨x_114, ex_114⟩ : ∃ z : Int32, z = l2_59 + (1) := ⟨_, rfl⟩
                                refine lv_iinc (v := x_114) (lv' := [(2, .int x_114), (1, .int v_113), (4, .int l4_72), (3, .int l3_72), (0, .ref o)]) hx hb dX9_in_119 hl (k := 3) rfl (by rw [ex_114]; rfl) (by decide) rfl (fun ls hl => ?_)
                                have rg10 := iv_rng l2_59
                                have hx_114 : x_114.toInt = l2_59.toInt + (1) := by rw [ex_114]; exact (iv_add (by omega) (by omega)).trans (by omega)
                                clear ex_114
                                refine lv_goto (tgt := 59) hx hb dX9_in_122 (by decide) ?_
                                exact ih59 x_114 v_113 f14_105 g36_105 _ _ _ (by omega) (by omega) (by omega) (by omega) (by omega) hP hS (lv_sub hl [0, 1, 4] rfl)
                              · skip
                                have ic_112 := iv_ne c_112
                                refine lv_iconst (v := 0) hx hb dX9_in_112 (by decide) ?_
                                refine lv_goto (tgt := 117) hx hb dX9_in_113 (by decide) ?_
                                refine lv_iadd hx hb dX9_in_117 ?_
                                refine lv_topi (fun v_115 ev_115 => ?_)
                                have rg11 := iv_rng l1_59
                                have hv_115 : v_115.toInt = l1_59.toInt + 0 := by rw [ev_115]; exact (iv_add (by omega) (by omega)).trans (by omega)
                                clear ev_115
                                refine lv_istore_n (lv' := [(1, .int v_115), (4, .int l4_72), (3, .int l3_72), (2, .int l2_59), (0, .ref o)]) hx hb dX9_in_118 rfl hl (by decide) rfl (fun ls hl => ?_)
                                obtain ⟨x_116, ex_116⟩ : ∃ z : Int32, z = l2_59 + (1) := ⟨_, rfl⟩
                                refine lv_iinc (v := x_116) (lv' := [(2, .int x_116), (1, .int v_115), (4, .int l4_72), (3, .int l3_72), (0, .ref o)]) hx hb dX9_in_119 hl (k := 3) rfl (by rw [ex_116]; rfl) (by decide) rfl (fun ls hl => ?_)
                                have rg12 := iv_rng l2_59
                                have hx_116 : x_116.toInt = l2_59.toInt + (1) := by rw [ex_116]; exact (iv_add (by omega) (by omega)).trans (by omega)
                                clear ex_116
                                refine lv_goto (tgt := 59) hx hb dX9_in_122 (by decide) ?_
                                exact ih59 x_116 v_115 f14_105 g36_105 _ _ _ (by omega) (by omega) (by omega) (by omega) (by omega) hP hS (lv_sub hl [0, 1, 4] rfl)
                          · skip
                            have ic_104 := iv_nle c_104
                            refine lv_iload_n hx hb dX9_in_78 rfl (lv_at hl 1 rfl) ?_
                            refine lv_aload_n hx hb dX9_in_79 rfl (lv_at hl 4 rfl) ?_
                            refine lv_iload hx hb dX9_in_80 (lv_at hl 0 rfl) ?_
                            refine lv_iload_n hx hb dX9_in_82 rfl (lv_at hl 2 rfl) ?_
                            refine vp_callSi (va_Run.run (va_runV (As := [.int l4_72, .int l2_59]) (rest := [.int l3_72]) ⟨hx, hb, hml, hown, hts⟩ (v_X9_isSameIn l dC dI o c kc (rU (rU st 13 (0 : Int32)) 37 x37_11) lg (rU (rU (rU (rU ai 14 a14_59) 33 f33_11) 34 f34_11) 35 f35_11) (rU al 36 b36_59) l4_72 l2_59 (show 0 ≤ x37_11.toInt by omega) (show x37_11.toInt ≤ 255 by omega) (by omega) (show l4_72.toInt < x37_11.toInt by omega) (by omega) (show l2_59.toInt < x37_11.toInt by omega) (show x37_11.toInt ≤ 16 by omega) (show aR (ai 8) 400 (0) 255 from hR8) (show aR f35_11 16 (0) 255 from hR35) (show inI f34_11 f35_11 x37_11 from (by assumption))) (cwV 2 hts gX9_in_X9_isSameIn rfl rfl rfl (by decide +kernel) ⟨Nat.le_of_ble_eq_true rfl, Nat.le_of_ble_eq_true rfl⟩) ⟨fun a U g mk q => by obtain ⟨q0, qP, qK⟩ := q; exact ⟨q0, qP, va_K.moved (u := U) (U := U.calling g mk a) (Vm.Alike.refl U.vm) qK⟩, va_recv hK hP (ci := 11) (q := (RX9, TX9, 38)) rfl (q0 := 0) rfl, fun U hU hW => ⟨rfl, by rw [hU]; exact hP, va_K.moved hW.alike hK⟩⟩ rfl rfl hl.1 rfl (lv_room (Nat.le_of_ble_eq_true rfl)) dX9_in_83 ⟨Nat.le_of_ble_eq_true rfl, Nat.le_of_ble_eq_true rfl⟩)) (fun r_117 er_117 => ?_)
                            obtain ⟨k_118, k_119⟩ := er_117
                            rcases iv_01 (a := r_117) (by omega) (by omega) with b_120 | b_120
                            · skip
                              have ib_120 := iv_eq b_120
                              rw [b_120]
                              refine lv_ior hx hb dX9_in_86 ?_
                              refine lv_topi (fun v_121 ev_121 => ?_)
                              have hv_121 : v_121.toInt = l3_72.toInt := by rw [ev_121, iv_or0]
                              clear ev_121
                              refine lv_istore_n (lv' := [(3, .int v_121), (4, .int l4_72), (2, .int l2_59), (1, .int l1_59), (0, .ref o)]) hx hb dX9_in_87 rfl hl (by decide) rfl (fun ls hl => ?_)
                              obtain ⟨x_122, ex_122⟩ : ∃ z : Int32, z = l4_72 + (1) := ⟨_, rfl⟩
                              refine lv_iinc (v := x_122) (lv' := [(4, .int x_122), (3, .int v_121), (2, .int l2_59), (1, .int l1_59), (0, .ref o)]) hx hb dX9_in_88 hl (k := 1) rfl (by rw [ex_122]; rfl) (by decide) rfl (fun ls hl => ?_)
                              have rg13 := iv_rng l4_72
                              have hx_122 : x_122.toInt = l4_72.toInt + (1) := by rw [ex_122]; exact (iv_add (by omega) (by omega)).trans (by omega)
                              clear ex_122
                              refine lv_goto (tgt := 72) hx hb dX9_in_91 (by decide) ?_
                              exact ih72 x_122 v_121 _ _ _ (by omega) (by omega) (by omega) (by omega) (by omega) hP hS (lv_sub hl [0, 1, 2, 3, 4] rfl)
                            · skip
                              have ib_120 := iv_eq b_120
                              rw [b_120]
                              refine lv_ior hx hb dX9_in_86 ?_
                              refine lv_topi (fun v_123 ev_123 => ?_)
                              have hv_123 : v_123.toInt = 1 := by rw [ev_123, iv_or1 (by omega) (by omega)]; omega
                              clear ev_123
                              refine lv_istore_n (lv' := [(3, .int v_123), (4, .int l4_72), (2, .int l2_59), (1, .int l1_59), (0, .ref o)]) hx hb dX9_in_87 rfl hl (by decide) rfl (fun ls hl => ?_)
                              obtain ⟨x_124, ex_124⟩ : ∃ z : Int32, z = l4_72 + (1) := ⟨_, rfl⟩
                              refine lv_iinc (v := x_124) (lv' := [(4, .int x_124), (3, .int v_123), (2, .int l2_59), (1, .int l1_59), (0, .ref o)]) hx hb dX9_in_88 hl (k := 1) rfl (by rw [ex_124]; rfl) (by decide) rfl (fun ls hl => ?_)
                              have rg14 := iv_rng l4_72
                              have hx_124 : x_124.toInt = l4_72.toInt + (1) := by rw [ex_124]; exact (iv_add (by omega) (by omega)).trans (by omega)
                              clear ex_124
                              refine lv_goto (tgt := 72) hx hb dX9_in_91 (by decide) ?_
                              exact ih72 x_124 v_123 _ _ _ (by omega) (by omega) (by omega) (by omega) (by omega) hP hS (lv_sub hl [0, 1, 2, 3, 4] rfl)
                      exact loop72 ((l2_59.toInt - 0 : Int).toNat + 1) (0 : Int32) (0 : Int32) _ _ _ (by omega) (by omega) (by omega) (by omega) (by omega) hP hS (lv_sub hl [0, 1, 2, 3, 4] rfl)
                exact loop59 ((x37_11.toInt - 0 : Int).toNat + 1) (0 : Int32) (0 : Int32) (ai 14) (al 36) _ _ _ (by omega) (by omega) (by omega) (by omega) (by omega) hP hS (lv_sub hl [0, 1, 2] rfl)
              · skip
                have ic_20 := iv_eq c_20
                exfalso
                omega
          · skip
            have ic_10 := iv_nle c_10
            refine lv_bipush (v := (-9)) hx hb dX9_in_42 (by decide) ?_
            exact W.iret hx hb hr (fun t ht hW => ⟨⟨_, _, rfl, rfl, st 3, st 4, st 5, st 6, st 9, st 12, (0 : Int32), st 15, st 37, ai 0, ai 14, ai 33, ai 34, ai 35, al 36, (by omega), (by omega), (by omega), (by omega), (by omega), (by omega), (by omega), (by omega), (by omega), (by omega), (by omega), (by omega), hR35, by rw [ht]; exact hP⟩, hS.F ht⟩) hS.2.2 dX9_in_44
        · skip
          have ic_7 := iv_nle c_7
          refine lv_bipush (v := (-3)) hx hb dX9_in_32 (by decide) ?_
          exact W.iret hx hb hr (fun t ht hW => ⟨⟨_, _, rfl, rfl, st 3, st 4, st 5, st 6, st 9, st 12, (0 : Int32), st 15, st 37, ai 0, ai 14, ai 33, ai 34, ai 35, al 36, (by omega), (by omega), (by omega), (by omega), (by omega), (by omega), (by omega), (by omega), (by omega), (by omega), (by omega), (by omega), hR35, by rw [ht]; exact hP⟩, hS.F ht⟩) hS.2.2 dX9_in_34
      · skip
        have ic_3 := iv_nle c_3
        exfalso
        omega
  exact main s.heap [] hP hS
