set_option maxHeartbeats 4000000 in
set_option maxRecDepth 100000 in
theorem v_X9_open (l : Launch) (dC : Nat → ClassId) (dI : Nat → Nat → Nat) (o : Nat) (c : Nat → Nat) (kc : Nat → ClassId) (st : Nat → Int32) (lg : Nat → Int64) (ai : Nat → Nat → Int32) (al : Nat → Nat → Int64)  (sz : Nat) (hf1a : 1 ≤ (st 1).toInt) (hf1b : (st 1).toInt ≤ 65536) (hf3a : 0 ≤ (st 3).toInt) (hf3b : (st 3).toInt ≤ 1) (hf6a : 0 ≤ (st 6).toInt) (hf6b : (st 6).toInt ≤ 1) (hf7a : 0 ≤ (st 7).toInt) (hf7b : (st 7).toInt ≤ 1) (hf12a : 0 ≤ (st 12).toInt) (hf12b : (st 12).toInt ≤ 8) (hf15a : 0 ≤ (st 15).toInt) (hf15b : (st 15).toInt ≤ 128) : Met l yX9_open wsX9_open ({ frames := 7, cells := 0, slots := 0, locals := 160 }) (va_Pc [.ref o] (fun U => U.heap.size = sz ∧ va_P (dC, dI) vwCl (rw_W o c kc st lg ai al) U.heap ∧ va_K (dC, dI) vwCl (rw_T kc) U ∧ va_D (fun _ => True) (rw_W o c kc st lg ai al))) (va_Qi (fun r (u : Int32) => r = u) (fun u t => ∃ (x3 : Int32) (x4 : Int32) (x5 : Int32) (x6 : Int32) (x7 : Int32) (x12 : Int32) (x13 : Int32) (x15 : Int32) (f0 : Nat → Int32), (0 ≤ x3.toInt) ∧ (x3.toInt ≤ 1) ∧ (0 ≤ x6.toInt) ∧ (x6.toInt ≤ 1) ∧ (0 ≤ x7.toInt) ∧ (x7.toInt ≤ 1) ∧ (0 ≤ x12.toInt) ∧ (x12.toInt ≤ 8) ∧ (0 ≤ x15.toInt) ∧ (x15.toInt ≤ 128) ∧ va_P (dC, dI) vwCl (rw_W o c kc (rU (rU (rU (rU (rU (rU (rU (rU st 3 x3) 4 x4) 5 x5) 6 x6) 7 x7) 12 x12) 13 x13) 15 x15) lg (rU ai 0 f0) al) t.heap) (va_A (rw_W o c kc st lg ai al) sz)) 0 0 (va_A (rw_W o c kc st lg ai al) sz) := by
  refine Met.ofW (cc := cX9_open) (maxL := 5) (ret := (some .int)) (by decide) rfl ?_
  intro p e s m args below meth cM s₁ B hml hv
  obtain ⟨rfl, hsz, hP, hK, hD0⟩ := hv
  have hx := B.exec
  have hb := B.bytes
  have hr := B.returns
  have hts := atoms_spec (ws := wsX9_open) B.pre
  have hown : s.vm.findClass RX9 = some m.cls := findClass_of_methodNamed B.named
  subst hsz
  have hD := hD0.self (sz := s.heap.size)
  generalize hAe : va_A (rw_W o c kc st lg ai al) s.heap.size = A at hD ⊢
  have hA : ∀ q : Nat, s.heap.size ≤ q → A q := fun q h => by rw [← hAe]; exact Or.inr h
  have hS : va_S A s.heap s.heap [] := va_S.rf
  clear hAe hD0
  have hl := lv_entry ([.ref o]) (n := 5) (Nat.le_of_ble_eq_true rfl)
  rw [lg_entry_eq]
  generalize (lg_sl ([.ref o]) ++ List.replicate (5 - (lg_sl ([.ref o])).length) Slot.unset).toArray = ls at hl ⊢
  have hl : lv_has ls 5 [(0, .ref o)] := hl
  have z_m5 : (-5 : Int32).toInt = -5 := by decide
  have z_m4 : (-4 : Int32).toInt = -4 := by decide
  have z_0 : (0 : Int32).toInt = 0 := by decide
  have z_1 : (1 : Int32).toInt = 1 := by decide
  have z_2 : (2 : Int32).toInt = 2 := by decide
  have z_4 : (4 : Int32).toInt = 4 := by decide
  have z_16 : (16 : Int32).toInt = 16 := by decide
  have z_26 : (26 : Int32).toInt = 26 := by decide
  have z_32 : (32 : Int32).toInt = 32 := by decide
  have z_128 : (128 : Int32).toInt = 128 := by decide
  have hin9 : ∀ w ∈ u_ws RX9 TX9 38, w ∈ wsX9_open := by decide +kernel
  have main : ∀ (H : Heap) (locs : List Loc), va_P (dC, dI) vwCl (rw_W o c kc st lg ai al) H → va_S A s.heap H locs → W p l e (headSpec wsX9_open ({ frames := 7, cells := 0, slots := 0, locals := 160 })).room s m ([.ref o] : List Value).toArray below meth cM H locs 0 0 (MQ below (va_Qi (fun r (u : Int32) => r = u) (fun u t => ∃ (x3 : Int32) (x4 : Int32) (x5 : Int32) (x6 : Int32) (x7 : Int32) (x12 : Int32) (x13 : Int32) (x15 : Int32) (f0 : Nat → Int32), (0 ≤ x3.toInt) ∧ (x3.toInt ≤ 1) ∧ (0 ≤ x6.toInt) ∧ (x6.toInt ≤ 1) ∧ (0 ≤ x7.toInt) ∧ (x7.toInt ≤ 1) ∧ (0 ≤ x12.toInt) ∧ (x12.toInt ≤ 8) ∧ (0 ≤ x15.toInt) ∧ (x15.toInt ≤ 128) ∧ va_P (dC, dI) vwCl (rw_W o c kc (rU (rU (rU (rU (rU (rU (rU (rU st 3 x3) 4 x4) 5 x5) 6 x6) 7 x7) 12 x12) 13 x13) 15 x15) lg (rU ai 0 f0) al) t.heap) A) ([.ref o] : List Value).toArray s 0 0 A) (F0 m 0 ls []) := by
    intro H locs hP hS
    refine lv_aload_n hx hb dX9_open_0 rfl (lv_at hl 0 rfl) ?_
    refine lv_iconst (v := 0) hx hb dX9_open_1 (by decide) ?_
    refine va_put (D := (dC, dI)) (ci := 11) (v := .int (0 : Int32)) (ty := .int) (C := RX9) (T := TX9) (N := 38) hx hb hts hin9 tyX9 tyX9_ok nmX9 hown hK hP (rw_D hD) hS 0 rfl rfl 13 (by decide) (hts (.fieldLink RX9 91 "BlockLogModel" "thrown" "I") (by decide +kernel)) (fun _ h9 => h9) rfl (by decide +kernel) rfl rfl (Nat.le_of_ble_eq_true rfl) dX9_open_2 (fun H locs hP _ hS => ?_)
    have hP : va_P (dC, dI) vwCl (rw_W o c kc (rU st 13 (0 : Int32)) lg ai al) H := hP
    refine lv_aload_n hx hb dX9_open_5 rfl (lv_at hl 0 rfl) ?_
    refine va_get (D := (dC, dI)) (ci := 11) (v := .int (st 3)) (C := RX9) (T := TX9) (N := 38) hx hb hts hin9 hown hK hP 0 rfl rfl 3 (by decide) (hts (.fieldLink RX9 72 "BlockLogModel" "on" "Z") (by decide +kernel)) (fun _ h9 => h9) rfl dX9_open_6 ?_
    refine lv_if_eq (tgt := 17) hx hb dX9_open_9 (by decide) (fun c_1 => ?_) (fun c_1 => ?_)
    · skip
      have ic_1 := iv_eq c_1
      have join17 : ∀ (js3_17 : Int32) (js6_17 : Int32) (js7_17 : Int32) (H : Heap) (locs : List Loc) (ls : Array Slot), (0 ≤ js3_17.toInt) → (js3_17.toInt ≤ 1) → (0 ≤ js6_17.toInt) → (js6_17.toInt ≤ 1) → (0 ≤ js7_17.toInt) → (js7_17.toInt ≤ 1) → va_P (dC, dI) vwCl (rw_W o c kc (rU (rU (rU (rU st 3 js3_17) 6 js6_17) 7 js7_17) 13 (0 : Int32)) lg ai al) H → va_S A s.heap H locs → lv_has ls 5 [(0, .ref o)] → W p l e (headSpec wsX9_open ({ frames := 7, cells := 0, slots := 0, locals := 160 })).room s m ([.ref o] : List Value).toArray below meth cM H locs 0 0 (MQ below (va_Qi (fun r (u : Int32) => r = u) (fun u t => ∃ (x3 : Int32) (x4 : Int32) (x5 : Int32) (x6 : Int32) (x7 : Int32) (x12 : Int32) (x13 : Int32) (x15 : Int32) (f0 : Nat → Int32), (0 ≤ x3.toInt) ∧ (x3.toInt ≤ 1) ∧ (0 ≤ x6.toInt) ∧ (x6.toInt ≤ 1) ∧ (0 ≤ x7.toInt) ∧ (x7.toInt ≤ 1) ∧ (0 ≤ x12.toInt) ∧ (x12.toInt ≤ 8) ∧ (0 ≤ x15.toInt) ∧ (x15.toInt ≤ 128) ∧ va_P (dC, dI) vwCl (rw_W o c kc (rU (rU (rU (rU (rU (rU (rU (rU st 3 x3) 4 x4) 5 x5) 6 x6) 7 x7) 12 x12) 13 x13) 15 x15) lg (rU ai 0 f0) al) t.heap) A) ([.ref o] : List Value).toArray s 0 0 A) (F0 m 84 ls []) := by
        intro js3_17 js6_17 js7_17 H locs ls ij0_17 ij1_17 ij2_17 ij3_17 ij4_17 ij5_17 hP hS hl
        have join84 : ∀ (js3_84 : Int32) (js4_84 : Int32) (js5_84 : Int32) (js6_84 : Int32) (js12_84 : Int32) (ja0_84 : Nat → Int32) (H : Heap) (locs : List Loc) (ls : Array Slot), (0 ≤ js3_84.toInt) → (js3_84.toInt ≤ 1) → (0 ≤ js6_84.toInt) → (js6_84.toInt ≤ 1) → (0 ≤ js12_84.toInt) → (js12_84.toInt ≤ 8) → va_P (dC, dI) vwCl (rw_W o c kc (rU (rU (rU (rU (rU (rU (rU st 3 js3_84) 4 js4_84) 5 js5_84) 6 js6_84) 7 js7_17) 12 js12_84) 13 (0 : Int32)) lg (rU ai 0 ja0_84) al) H → va_S A s.heap H locs → lv_has ls 5 [(0, .ref o)] → W p l e (headSpec wsX9_open ({ frames := 7, cells := 0, slots := 0, locals := 160 })).room s m ([.ref o] : List Value).toArray below meth cM H locs 0 0 (MQ below (va_Qi (fun r (u : Int32) => r = u) (fun u t => ∃ (x3 : Int32) (x4 : Int32) (x5 : Int32) (x6 : Int32) (x7 : Int32) (x12 : Int32) (x13 : Int32) (x15 : Int32) (f0 : Nat → Int32), (0 ≤ x3.toInt) ∧ (x3.toInt ≤ 1) ∧ (0 ≤ x6.toInt) ∧ (x6.toInt ≤ 1) ∧ (0 ≤ x7.toInt) ∧ (x7.toInt ≤ 1) ∧ (0 ≤ x12.toInt) ∧ (x12.toInt ≤ 8) ∧ (0 ≤ x15.toInt) ∧ (x15.toInt ≤ 128) ∧ va_P (dC, dI) vwCl (rw_W o c kc (rU (rU (rU (rU (rU (rU (rU (rU st 3 x3) 4 x4) 5 x5) 6 x6) 7 x7) 12 x12) 13 x13) 15 x15) lg (rU ai 0 f0) al) t.heap) A) ([.ref o] : List Value).toArray s 0 0 A) (F0 m 117 ls []) := by
          intro js3_84 js4_84 js5_84 js6_84 js12_84 ja0_84 H locs ls ij0_84 ij1_84 ij2_84 ij3_84 ij4_84 ij5_84 hP hS hl
          refine lv_aload_n hx hb dX9_open_117 rfl (lv_at hl 0 rfl) ?_
          refine vp_callSi (va_Run.run (va_runV (As := []) (rest := []) ⟨hx, hb, hml, hown, hts⟩ (v_X9_countRows l dC dI o c kc (rU (rU (rU (rU (rU (rU (rU st 3 js3_84) 4 js4_84) 5 js5_84) 6 js6_84) 7 js7_17) 12 js12_84) 13 (0 : Int32)) lg (rU ai 0 ja0_84) al  (show 0 ≤ js7_17.toInt by omega) (show js7_17.toInt ≤ 1 by omega)) (cwV 0 hts gX9_open_X9_countRows rfl rfl rfl (by decide +kernel) ⟨Nat.le_of_ble_eq_true rfl, Nat.le_of_ble_eq_true rfl⟩) ⟨fun a U g mk q => by obtain ⟨q0, qP, qK⟩ := q; exact ⟨q0, qP, va_K.moved (u := U) (U := U.calling g mk a) (Vm.Alike.refl U.vm) qK⟩, va_recv hK hP (ci := 11) (q := (RX9, TX9, 38)) rfl (q0 := 0) rfl, fun U hU hW => ⟨rfl, by rw [hU]; exact hP, va_K.moved hW.alike hK⟩⟩ rfl rfl hl.1 rfl (lv_room (Nat.le_of_ble_eq_true rfl)) dX9_open_118 ⟨Nat.le_of_ble_eq_true rfl, Nat.le_of_ble_eq_true rfl⟩)) (fun r_2 er_2 => ?_)
          obtain ⟨k_3, k_4⟩ := er_2
          refine lv_istore_n (lv' := [(3, .int r_2), (0, .ref o)]) hx hb dX9_open_121 rfl hl (by decide) rfl (fun ls hl => ?_)
          refine lv_aload_n hx hb dX9_open_122 rfl (lv_at hl 1 rfl) ?_
          refine lv_iload_n hx hb dX9_open_123 rfl (lv_at hl 0 rfl) ?_
          refine va_put (D := (dC, dI)) (ci := 11) (v := .int r_2) (ty := .int) (C := RX9) (T := TX9) (N := 38) hx hb hts hin9 tyX9 tyX9_ok nmX9 hown hK hP (rw_D hD) hS 0 rfl rfl 15 (by decide) (hts (.fieldLink RX9 157 "BlockLogModel" "rowsNow" "I") (by decide +kernel)) (fun _ h9 => h9) rfl (by decide +kernel) rfl rfl (Nat.le_of_ble_eq_true rfl) dX9_open_124 (fun H locs hP _ hS => ?_)
          have hP : va_P (dC, dI) vwCl (rw_W o c kc (rU (rU (rU (rU (rU (rU (rU (rU st 3 js3_84) 4 js4_84) 5 js5_84) 6 js6_84) 7 js7_17) 12 js12_84) 13 (0 : Int32)) 15 r_2) lg (rU ai 0 ja0_84) al) H := hP
          have join127 : ∀ (js3_127 : Int32) (js4_127 : Int32) (js5_127 : Int32) (js6_127 : Int32) (js12_127 : Int32) (ja0_127 : Nat → Int32) (H : Heap) (locs : List Loc) (ls : Array Slot), (0 ≤ js3_127.toInt) → (js3_127.toInt ≤ 1) → (0 ≤ js6_127.toInt) → (js6_127.toInt ≤ 1) → (0 ≤ js12_127.toInt) → (js12_127.toInt ≤ 8) → va_P (dC, dI) vwCl (rw_W o c kc (rU (rU (rU (rU (rU (rU (rU (rU st 3 js3_127) 4 js4_127) 5 js5_127) 6 js6_127) 7 js7_17) 12 js12_127) 13 (0 : Int32)) 15 r_2) lg (rU ai 0 ja0_127) al) H → va_S A s.heap H locs → lv_has ls 5 [(3, .int r_2), (0, .ref o)] → W p l e (headSpec wsX9_open ({ frames := 7, cells := 0, slots := 0, locals := 160 })).room s m ([.ref o] : List Value).toArray below meth cM H locs 0 0 (MQ below (va_Qi (fun r (u : Int32) => r = u) (fun u t => ∃ (x3 : Int32) (x4 : Int32) (x5 : Int32) (x6 : Int32) (x7 : Int32) (x12 : Int32) (x13 : Int32) (x15 : Int32) (f0 : Nat → Int32), (0 ≤ x3.toInt) ∧ (x3.toInt ≤ 1) ∧ (0 ≤ x6.toInt) ∧ (x6.toInt ≤ 1) ∧ (0 ≤ x7.toInt) ∧ (x7.toInt ≤ 1) ∧ (0 ≤ x12.toInt) ∧ (x12.toInt ≤ 8) ∧ (0 ≤ x15.toInt) ∧ (x15.toInt ≤ 128) ∧ va_P (dC, dI) vwCl (rw_W o c kc (rU (rU (rU (rU (rU (rU (rU (rU st 3 x3) 4 x4) 5 x5) 6 x6) 7 x7) 12 x12) 13 x13) 15 x15) lg (rU ai 0 f0) al) t.heap) A) ([.ref o] : List Value).toArray s 0 0 A) (F0 m 158 ls []) := by
            intro js3_127 js4_127 js5_127 js6_127 js12_127 ja0_127 H locs ls ij0_127 ij1_127 ij2_127 ij3_127 ij4_127 ij5_127 hP hS hl
            refine lv_aload_n hx hb dX9_open_158 rfl (lv_at hl 1 rfl) ?_
            have hFc := vfree (rw_D hD : va_D A (rw_W o c kc (rU (rU (rU (rU (rU (rU (rU (rU st 3 js3_127) 4 js4_127) 5 js5_127) 6 js6_127) 7 js7_17) 12 js12_127) 13 (0 : Int32)) 15 r_2) lg (rU ai 0 ja0_127) al)) hS hA
            refine va_callv (va_runV (As := []) (rest := []) ⟨hx, hb, hml, hown, hts⟩ (v_X9_lackingGroup l dC dI o c kc (rU (rU (rU (rU (rU (rU (rU (rU st 3 js3_127) 4 js4_127) 5 js5_127) 6 js6_127) 7 js7_17) 12 js12_127) 13 (0 : Int32)) 15 r_2) lg (rU ai 0 ja0_127) al  _ (show 0 ≤ js3_127.toInt by omega) (show js3_127.toInt ≤ 1 by omega) (show 0 ≤ js6_127.toInt by omega) (show js6_127.toInt ≤ 1 by omega) (show 0 ≤ js7_17.toInt by omega) (show js7_17.toInt ≤ 1 by omega) (show 0 ≤ js12_127.toInt by omega) (show js12_127.toInt ≤ 8 by omega) (show 0 ≤ r_2.toInt by omega) (show r_2.toInt ≤ 128 by omega)) (cwV 0 hts gX9_open_X9_lackingGroup rfl rfl rfl (by decide +kernel) ⟨Nat.le_of_ble_eq_true rfl, Nat.le_of_ble_eq_true rfl⟩) ⟨fun a U g mk q => by obtain ⟨q0, q1, qP, qK, qD⟩ := q; exact ⟨q0, q1, qP, va_K.moved (u := U) (U := U.calling g mk a) (Vm.Alike.refl U.vm) qK, qD⟩, va_recv hK hP (ci := 11) (q := (RX9, TX9, 38)) rfl (q0 := 0) rfl, fun U hU hW => ⟨rfl, by rw [hU], by rw [hU]; exact hP, va_K.moved hW.alike hK, rw_D (hD.weaken (fun _ _ _ _ => trivial))⟩⟩ rfl rfl hl.1 rfl (lv_room (Nat.le_of_ble_eq_true rfl)) dX9_open_159 ⟨Nat.le_of_ble_eq_true rfl, Nat.le_of_ble_eq_true rfl⟩) hS (fun q _ h => hFc q h) hFc (fun ur_5 t H1 locs ht hvm er_5 hB hz1 hk1 hS => ?_)
            obtain ⟨x3_5, x4_5, x5_5, x6_5, x12_5, x15_5, f0_5, k_6, k_7, k_8, k_9, k_10, k_11, k_12, k_13, hP1⟩ := hB
            rw [ht] at hP1
            clear hFc hz1 hk1 hvm hP
            subst ht
            have hP := hP1
            clear hP1
            generalize t.heap = H at hP hS ⊢
            have hP : va_P (dC, dI) vwCl (rw_W o c kc (rU (rU (rU (rU (rU (rU (rU (rU st 3 x3_5) 4 x4_5) 5 x5_5) 6 x6_5) 7 js7_17) 12 x12_5) 13 (0 : Int32)) 15 x15_5) lg (rU ai 0 f0_5) al) H := hP
            have k_6 : 0 ≤ x3_5.toInt := k_6
            have k_7 : x3_5.toInt ≤ 1 := k_7
            have k_8 : 0 ≤ x6_5.toInt := k_8
            have k_9 : x6_5.toInt ≤ 1 := k_9
            have k_10 : 0 ≤ x12_5.toInt := k_10
            have k_11 : x12_5.toInt ≤ 8 := k_11
            have k_12 : 0 ≤ x15_5.toInt := k_12
            have k_13 : x15_5.toInt ≤ 128 := k_13
            refine lv_iconst (v := 0) hx hb dX9_open_162 (by decide) ?_
            refine lv_istore (lv' := [(4, .int (0 : Int32)), (3, .int r_2), (0, .ref o)]) hx hb dX9_open_163 hl (by decide) rfl (fun ls hl => ?_)
            have loop165 : ∀ (n : Nat) (l4_165 : Int32) (s3_165 : Int32) (s4_165 : Int32) (s5_165 : Int32) (s6_165 : Int32) (s12_165 : Int32) (a0_165 : Nat → Int32) (H : Heap) (locs : List Loc) (ls : Array Slot), (0 ≤ l4_165.toInt) → (l4_165.toInt ≤ (st 1).toInt) → (0 ≤ s3_165.toInt) → (s3_165.toInt ≤ 1) → (0 ≤ s6_165.toInt) → (s6_165.toInt ≤ 1) → (0 ≤ s12_165.toInt) → (s12_165.toInt ≤ 8) → ((st 1).toInt - l4_165.toInt : Int).toNat < n → va_P (dC, dI) vwCl (rw_W o c kc (rU (rU (rU (rU (rU (rU (rU (rU st 3 s3_165) 4 s4_165) 5 s5_165) 6 s6_165) 7 js7_17) 12 s12_165) 13 (0 : Int32)) 15 x15_5) lg (rU ai 0 a0_165) al) H → va_S A s.heap H locs → lv_has ls 5 [(4, .int l4_165), (3, .int r_2), (0, .ref o)] → W p l e (headSpec wsX9_open ({ frames := 7, cells := 0, slots := 0, locals := 160 })).room s m ([.ref o] : List Value).toArray below meth cM H locs 0 0 (MQ below (va_Qi (fun r (u : Int32) => r = u) (fun u t => ∃ (x3 : Int32) (x4 : Int32) (x5 : Int32) (x6 : Int32) (x7 : Int32) (x12 : Int32) (x13 : Int32) (x15 : Int32) (f0 : Nat → Int32), (0 ≤ x3.toInt) ∧ (x3.toInt ≤ 1) ∧ (0 ≤ x6.toInt) ∧ (x6.toInt ≤ 1) ∧ (0 ≤ x7.toInt) ∧ (x7.toInt ≤ 1) ∧ (0 ≤ x12.toInt) ∧ (x12.toInt ≤ 8) ∧ (0 ≤ x15.toInt) ∧ (x15.toInt ≤ 128) ∧ va_P (dC, dI) vwCl (rw_W o c kc (rU (rU (rU (rU (rU (rU (rU (rU st 3 x3) 4 x4) 5 x5) 6 x6) 7 x7) 12 x12) 13 x13) 15 x15) lg (rU ai 0 f0) al) t.heap) A) ([.ref o] : List Value).toArray s 0 0 A) (F0 m 165 ls []) := by
              intro n
              induction n with
              | zero => intro l4_165 s3_165 s4_165 s5_165 s6_165 s12_165 a0_165 H locs ls if0_165 if1_165 if2_165 if3_165 if4_165 if5_165 if6_165 if7_165 hm; exact absurd hm (Nat.not_lt_zero _)
              | succ n ih165 =>
                intro l4_165 s3_165 s4_165 s5_165 s6_165 s12_165 a0_165 H locs ls if0_165 if1_165 if2_165 if3_165 if4_165 if5_165 if6_165 if7_165 hm165 hP hS hl
                refine lv_iload hx hb dX9_open_165 (lv_at hl 0 rfl) ?_
                refine lv_aload_n hx hb dX9_open_167 rfl (lv_at hl 2 rfl) ?_
                refine va_get (D := (dC, dI)) (ci := 11) (v := .int (st 1)) (C := RX9) (T := TX9) (N := 38) hx hb hts hin9 hown hK hP 0 rfl rfl 1 (by decide) (hts (.fieldLink RX9 62 "BlockLogModel" "pages" "I") (by decide +kernel)) (fun _ h9 => h9) rfl dX9_open_168 ?_
                refine lv_icmp_ge (tgt := 209) hx hb dX9_open_171 (by decide) (fun c_14 => ?_) (fun c_14 => ?_)
                · skip
                  have ic_14 := iv_le c_14
                  refine lv_aload_n hx hb dX9_open_209 rfl (lv_at hl 2 rfl) ?_
                  have hFc := vfree (rw_D hD : va_D A (rw_W o c kc (rU (rU (rU (rU (rU (rU (rU (rU st 3 s3_165) 4 s4_165) 5 s5_165) 6 s6_165) 7 js7_17) 12 s12_165) 13 (0 : Int32)) 15 x15_5) lg (rU ai 0 a0_165) al)) hS hA
                  refine va_callv (va_runV (As := []) (rest := []) ⟨hx, hb, hml, hown, hts⟩ (v_X9_lastBytes l dC dI o c kc (rU (rU (rU (rU (rU (rU (rU (rU st 3 s3_165) 4 s4_165) 5 s5_165) 6 s6_165) 7 js7_17) 12 s12_165) 13 (0 : Int32)) 15 x15_5) lg (rU ai 0 a0_165) al  _ (show 1 ≤ (st 1).toInt by omega) (show (st 1).toInt ≤ 65536 by omega) (show 0 ≤ s3_165.toInt by omega) (show s3_165.toInt ≤ 1 by omega) (show 0 ≤ s6_165.toInt by omega) (show s6_165.toInt ≤ 1 by omega) (show 0 ≤ js7_17.toInt by omega) (show js7_17.toInt ≤ 1 by omega) (show 0 ≤ s12_165.toInt by omega) (show s12_165.toInt ≤ 8 by omega) (show 0 ≤ x15_5.toInt by omega) (show x15_5.toInt ≤ 128 by omega)) (cwV 0 hts gX9_open_X9_lastBytes rfl rfl rfl (by decide +kernel) ⟨Nat.le_of_ble_eq_true rfl, Nat.le_of_ble_eq_true rfl⟩) ⟨fun a U g mk q => by obtain ⟨q0, q1, qP, qK, qD⟩ := q; exact ⟨q0, q1, qP, va_K.moved (u := U) (U := U.calling g mk a) (Vm.Alike.refl U.vm) qK, qD⟩, va_recv hK hP (ci := 11) (q := (RX9, TX9, 38)) rfl (q0 := 0) rfl, fun U hU hW => ⟨rfl, by rw [hU], by rw [hU]; exact hP, va_K.moved hW.alike hK, rw_D (hD.weaken (fun _ _ _ _ => trivial))⟩⟩ rfl rfl hl.1 rfl (lv_room (Nat.le_of_ble_eq_true rfl)) dX9_open_210 ⟨Nat.le_of_ble_eq_true rfl, Nat.le_of_ble_eq_true rfl⟩) hS (fun q _ h => hFc q h) hFc (fun ur_15 t H1 locs ht hvm er_15 hB hz1 hk1 hS => ?_)
                  obtain ⟨x3_15, x4_15, x5_15, x6_15, x12_15, f0_15, k_16, k_17, k_18, k_19, k_20, k_21, hP1⟩ := hB
                  rw [ht] at hP1
                  clear hFc hz1 hk1 hvm hP
                  subst ht
                  have hP := hP1
                  clear hP1
                  generalize t.heap = H at hP hS ⊢
                  have hP : va_P (dC, dI) vwCl (rw_W o c kc (rU (rU (rU (rU (rU (rU (rU (rU st 3 x3_15) 4 x4_15) 5 x5_15) 6 x6_15) 7 js7_17) 12 x12_15) 13 (0 : Int32)) 15 x15_5) lg (rU ai 0 f0_15) al) H := hP
                  have k_16 : 0 ≤ x3_15.toInt := k_16
                  have k_17 : x3_15.toInt ≤ 1 := k_17
                  have k_18 : 0 ≤ x6_15.toInt := k_18
                  have k_19 : x6_15.toInt ≤ 1 := k_19
                  have k_20 : 0 ≤ x12_15.toInt := k_20
                  have k_21 : x12_15.toInt ≤ 8 := k_21
                  refine lv_aload_n hx hb dX9_open_213 rfl (lv_at hl 2 rfl) ?_
                  refine va_get (D := (dC, dI)) (ci := 11) (v := .int x6_15) (C := RX9) (T := TX9) (N := 38) hx hb hts hin9 hown hK hP 0 rfl rfl 6 (by decide) (hts (.fieldLink RX9 108 "BlockLogModel" "dark" "Z") (by decide +kernel)) (fun _ h9 => h9) rfl dX9_open_214 ?_
                  refine lv_if_eq (tgt := 223) hx hb dX9_open_217 (by decide) (fun c_22 => ?_) (fun c_22 => ?_)
                  · skip
                    have ic_22 := iv_eq c_22
                    refine lv_aload_n hx hb dX9_open_223 rfl (lv_at hl 2 rfl) ?_
                    refine vp_callSi (va_Run.run (va_runV (As := []) (rest := []) ⟨hx, hb, hml, hown, hts⟩ (v_X9_rows l dC dI o c kc (rU (rU (rU (rU (rU (rU (rU (rU st 3 x3_15) 4 x4_15) 5 x5_15) 6 x6_15) 7 js7_17) 12 x12_15) 13 (0 : Int32)) 15 x15_5) lg (rU ai 0 f0_15) al  (show 0 ≤ x15_5.toInt by omega) (show x15_5.toInt ≤ 128 by omega)) (cwV 0 hts gX9_open_X9_rows rfl rfl rfl (by decide +kernel) ⟨Nat.le_of_ble_eq_true rfl, Nat.le_of_ble_eq_true rfl⟩) ⟨fun a U g mk q => by obtain ⟨q0, qP, qK⟩ := q; exact ⟨q0, qP, va_K.moved (u := U) (U := U.calling g mk a) (Vm.Alike.refl U.vm) qK⟩, va_recv hK hP (ci := 11) (q := (RX9, TX9, 38)) rfl (q0 := 0) rfl, fun U hU hW => ⟨rfl, by rw [hU]; exact hP, va_K.moved hW.alike hK⟩⟩ rfl rfl hl.1 rfl (lv_room (Nat.le_of_ble_eq_true rfl)) dX9_open_224 ⟨Nat.le_of_ble_eq_true rfl, Nat.le_of_ble_eq_true rfl⟩)) (fun r_23 er_23 => ?_)
                    have k_24 := er_23
                    have k_24 : r_23.toInt = x15_5.toInt := k_24
                    exact W.iret hx hb hr (fun t ht hW => ⟨⟨_, _, rfl, rfl, x3_15, x4_15, x5_15, x6_15, js7_17, x12_15, (0 : Int32), x15_5, f0_15, (by omega), (by omega), (by omega), (by omega), (by omega), (by omega), (by omega), (by omega), (by omega), (by omega), by rw [ht]; exact hP⟩, hS.F ht⟩) hS.2.2 dX9_open_227
                  · skip
                    have ic_22 := iv_ne c_22
                    refine lv_bipush (v := (-4)) hx hb dX9_open_220 (by decide) ?_
                    exact W.iret hx hb hr (fun t ht hW => ⟨⟨_, _, rfl, rfl, x3_15, x4_15, x5_15, x6_15, js7_17, x12_15, (0 : Int32), x15_5, f0_15, (by omega), (by omega), (by omega), (by omega), (by omega), (by omega), (by omega), (by omega), (by omega), (by omega), by rw [ht]; exact hP⟩, hS.F ht⟩) hS.2.2 dX9_open_222
                · skip
                  have ic_14 := iv_nle c_14
                  refine lv_aload_n hx hb dX9_open_174 rfl (lv_at hl 2 rfl) ?_
                  refine va_get (D := (dC, dI)) (ci := 11) (v := .int s6_165) (C := RX9) (T := TX9) (N := 38) hx hb hts hin9 hown hK hP 0 rfl rfl 6 (by decide) (hts (.fieldLink RX9 108 "BlockLogModel" "dark" "Z") (by decide +kernel)) (fun _ h9 => h9) rfl dX9_open_175 ?_
                  refine lv_if_ne (tgt := 209) hx hb dX9_open_178 (by decide) (fun c_25 => ?_) (fun c_25 => ?_)
                  · skip
                    have ic_25 := iv_ne c_25
                    refine lv_aload_n hx hb dX9_open_209 rfl (lv_at hl 2 rfl) ?_
                    have hFc := vfree (rw_D hD : va_D A (rw_W o c kc (rU (rU (rU (rU (rU (rU (rU (rU st 3 s3_165) 4 s4_165) 5 s5_165) 6 s6_165) 7 js7_17) 12 s12_165) 13 (0 : Int32)) 15 x15_5) lg (rU ai 0 a0_165) al)) hS hA
                    refine va_callv (va_runV (As := []) (rest := []) ⟨hx, hb, hml, hown, hts⟩ (v_X9_lastBytes l dC dI o c kc (rU (rU (rU (rU (rU (rU (rU (rU st 3 s3_165) 4 s4_165) 5 s5_165) 6 s6_165) 7 js7_17) 12 s12_165) 13 (0 : Int32)) 15 x15_5) lg (rU ai 0 a0_165) al  _ (show 1 ≤ (st 1).toInt by omega) (show (st 1).toInt ≤ 65536 by omega) (show 0 ≤ s3_165.toInt by omega) (show s3_165.toInt ≤ 1 by omega) (show 0 ≤ s6_165.toInt by omega) (show s6_165.toInt ≤ 1 by omega) (show 0 ≤ js7_17.toInt by omega) (show js7_17.toInt ≤ 1 by omega) (show 0 ≤ s12_165.toInt by omega) (show s12_165.toInt ≤ 8 by omega) (show 0 ≤ x15_5.toInt by omega) (show x15_5.toInt ≤ 128 by omega)) (cwV 0 hts gX9_open_X9_lastBytes rfl rfl rfl (by decide +kernel) ⟨Nat.le_of_ble_eq_true rfl, Nat.le_of_ble_eq_true rfl⟩) ⟨fun a U g mk q => by obtain ⟨q0, q1, qP, qK, qD⟩ := q; exact ⟨q0, q1, qP, va_K.moved (u := U) (U := U.calling g mk a) (Vm.Alike.refl U.vm) qK, qD⟩, va_recv hK hP (ci := 11) (q := (RX9, TX9, 38)) rfl (q0 := 0) rfl, fun U hU hW => ⟨rfl, by rw [hU], by rw [hU]; exact hP, va_K.moved hW.alike hK, rw_D (hD.weaken (fun _ _ _ _ => trivial))⟩⟩ rfl rfl hl.1 rfl (lv_room (Nat.le_of_ble_eq_true rfl)) dX9_open_210 ⟨Nat.le_of_ble_eq_true rfl, Nat.le_of_ble_eq_true rfl⟩) hS (fun q _ h => hFc q h) hFc (fun ur_26 t H1 locs ht hvm er_26 hB hz1 hk1 hS => ?_)
                    obtain ⟨x3_26, x4_26, x5_26, x6_26, x12_26, f0_26, k_27, k_28, k_29, k_30, k_31, k_32, hP1⟩ := hB
                    rw [ht] at hP1
                    clear hFc hz1 hk1 hvm hP
                    subst ht
                    have hP := hP1
                    clear hP1
                    generalize t.heap = H at hP hS ⊢
                    have hP : va_P (dC, dI) vwCl (rw_W o c kc (rU (rU (rU (rU (rU (rU (rU (rU st 3 x3_26) 4 x4_26) 5 x5_26) 6 x6_26) 7 js7_17) 12 x12_26) 13 (0 : Int32)) 15 x15_5) lg (rU ai 0 f0_26) al) H := hP
                    have k_27 : 0 ≤ x3_26.toInt := k_27
                    have k_28 : x3_26.toInt ≤ 1 := k_28
                    have k_29 : 0 ≤ x6_26.toInt := k_29
                    have k_30 : x6_26.toInt ≤ 1 := k_30
                    have k_31 : 0 ≤ x12_26.toInt := k_31
                    have k_32 : x12_26.toInt ≤ 8 := k_32
                    refine lv_aload_n hx hb dX9_open_213 rfl (lv_at hl 2 rfl) ?_
                    refine va_get (D := (dC, dI)) (ci := 11) (v := .int x6_26) (C := RX9) (T := TX9) (N := 38) hx hb hts hin9 hown hK hP 0 rfl rfl 6 (by decide) (hts (.fieldLink RX9 108 "BlockLogModel" "dark" "Z") (by decide +kernel)) (fun _ h9 => h9) rfl dX9_open_214 ?_
                    refine lv_if_eq (tgt := 223) hx hb dX9_open_217 (by decide) (fun c_33 => ?_) (fun c_33 => ?_)
                    · skip
                      have ic_33 := iv_eq c_33
                      refine lv_aload_n hx hb dX9_open_223 rfl (lv_at hl 2 rfl) ?_
                      refine vp_callSi (va_Run.run (va_runV (As := []) (rest := []) ⟨hx, hb, hml, hown, hts⟩ (v_X9_rows l dC dI o c kc (rU (rU (rU (rU (rU (rU (rU (rU st 3 x3_26) 4 x4_26) 5 x5_26) 6 x6_26) 7 js7_17) 12 x12_26) 13 (0 : Int32)) 15 x15_5) lg (rU ai 0 f0_26) al  (show 0 ≤ x15_5.toInt by omega) (show x15_5.toInt ≤ 128 by omega)) (cwV 0 hts gX9_open_X9_rows rfl rfl rfl (by decide +kernel) ⟨Nat.le_of_ble_eq_true rfl, Nat.le_of_ble_eq_true rfl⟩) ⟨fun a U g mk q => by obtain ⟨q0, qP, qK⟩ := q; exact ⟨q0, qP, va_K.moved (u := U) (U := U.calling g mk a) (Vm.Alike.refl U.vm) qK⟩, va_recv hK hP (ci := 11) (q := (RX9, TX9, 38)) rfl (q0 := 0) rfl, fun U hU hW => ⟨rfl, by rw [hU]; exact hP, va_K.moved hW.alike hK⟩⟩ rfl rfl hl.1 rfl (lv_room (Nat.le_of_ble_eq_true rfl)) dX9_open_224 ⟨Nat.le_of_ble_eq_true rfl, Nat.le_of_ble_eq_true rfl⟩)) (fun r_34 er_34 => ?_)
                      have k_35 := er_34
                      have k_35 : r_34.toInt = x15_5.toInt := k_35
                      exact W.iret hx hb hr (fun t ht hW => ⟨⟨_, _, rfl, rfl, x3_26, x4_26, x5_26, x6_26, js7_17, x12_26, (0 : Int32), x15_5, f0_26, (by omega), (by omega), (by omega), (by omega), (by omega), (by omega), (by omega), (by omega), (by omega), (by omega), by rw [ht]; exact hP⟩, hS.F ht⟩) hS.2.2 dX9_open_227
                    · skip
                      have ic_33 := iv_ne c_33
                      refine lv_bipush (v := (-4)) hx hb dX9_open_220 (by decide) ?_
                      exact W.iret hx hb hr (fun t ht hW => ⟨⟨_, _, rfl, rfl, x3_26, x4_26, x5_26, x6_26, js7_17, x12_26, (0 : Int32), x15_5, f0_26, (by omega), (by omega), (by omega), (by omega), (by omega), (by omega), (by omega), (by omega), (by omega), (by omega), by rw [ht]; exact hP⟩, hS.F ht⟩) hS.2.2 dX9_open_222
                  · skip
                    have ic_25 := iv_eq c_25
                    refine lv_aload_n hx hb dX9_open_181 rfl (lv_at hl 2 rfl) ?_
                    refine lv_iload hx hb dX9_open_182 (lv_at hl 0 rfl) ?_
                    refine vp_callSi (va_Run.run (va_runV (As := [.int l4_165]) (rest := []) ⟨hx, hb, hml, hown, hts⟩ (v_X9_pageState l dC dI o c kc (rU (rU (rU (rU (rU (rU (rU (rU st 3 s3_165) 4 s4_165) 5 s5_165) 6 s6_165) 7 js7_17) 12 s12_165) 13 (0 : Int32)) 15 x15_5) lg (rU ai 0 a0_165) al l4_165 (by omega) (by omega)) (cwV 1 hts gX9_open_X9_pageState rfl rfl rfl (by decide +kernel) ⟨Nat.le_of_ble_eq_true rfl, Nat.le_of_ble_eq_true rfl⟩) ⟨fun a U g mk q => by obtain ⟨q0, qP, qK⟩ := q; exact ⟨q0, qP, va_K.moved (u := U) (U := U.calling g mk a) (Vm.Alike.refl U.vm) qK⟩, va_recv hK hP (ci := 11) (q := (RX9, TX9, 38)) rfl (q0 := 0) rfl, fun U hU hW => ⟨rfl, by rw [hU]; exact hP, va_K.moved hW.alike hK⟩⟩ rfl rfl hl.1 rfl (lv_room (Nat.le_of_ble_eq_true rfl)) dX9_open_184 ⟨Nat.le_of_ble_eq_true rfl, Nat.le_of_ble_eq_true rfl⟩)) (fun r_36 er_36 => ?_)
                    obtain ⟨k_37, k_38, hrt⟩ := er_36
                    have hrt : (r_36.toInt = 1 → rtQ a0_165 l4_165) ∧ (r_36.toInt ≠ 1 → ¬ rtQ a0_165 l4_165) := hrt
                    refine lv_iconst (v := 2) hx hb dX9_open_187 (by decide) ?_
                    refine lv_icmp_ne (tgt := 203) hx hb dX9_open_188 (by decide) (fun c_39 => ?_) (fun c_39 => ?_)
                    · skip
                      have ic_39 := iv_ne c_39
                      obtain ⟨x_40, ex_40⟩ : ∃ z : Int32, z = l4_165 + (1) := ⟨_, rfl⟩
                      refine lv_iinc (v := x_40) (lv' := [(4, .int x_40), (3, .int r_2), (0, .ref o)]) hx hb dX9_open_203 hl (k := 0) rfl (by rw [ex_40]; rfl) (by decide) rfl (fun ls hl => ?_)
                      have rg1 := iv_rng l4_165
                      have hx_40 : x_40.toInt = l4_165.toInt + (1) := by rw [ex_40]; exact (iv_add (by omega) (by omega)).trans (by omega)
                      clear ex_40
                      refine lv_goto (tgt := 165) hx hb dX9_open_206 (by decide) ?_
                      exact ih165 x_40 s3_165 s4_165 s5_165 s6_165 s12_165 a0_165 _ _ _ (by omega) (by omega) (by omega) (by omega) (by omega) (by omega) (by omega) (by omega) (by omega) hP hS (lv_sub hl [0, 1, 2] rfl)
                    · skip
                      have ic_39 := iv_eq c_39
                      refine lv_aload_n hx hb dX9_open_191 rfl (lv_at hl 2 rfl) ?_
                      refine lv_aload_n hx hb dX9_open_192 rfl (lv_at hl 2 rfl) ?_
                      refine lv_iload hx hb dX9_open_193 (lv_at hl 0 rfl) ?_
                      refine vp_callSi (va_Run.run (va_runV (As := [.int l4_165]) (rest := [.ref o]) ⟨hx, hb, hml, hown, hts⟩ (v_X9_pagePlace l dC dI o c kc (rU (rU (rU (rU (rU (rU (rU (rU st 3 s3_165) 4 s4_165) 5 s5_165) 6 s6_165) 7 js7_17) 12 s12_165) 13 (0 : Int32)) 15 x15_5) lg (rU ai 0 a0_165) al l4_165 (by omega) (by omega)) (cwV 1 hts gX9_open_X9_pagePlace rfl rfl rfl (by decide +kernel) ⟨Nat.le_of_ble_eq_true rfl, Nat.le_of_ble_eq_true rfl⟩) ⟨fun a U g mk q => by obtain ⟨q0, qP, qK⟩ := q; exact ⟨q0, qP, va_K.moved (u := U) (U := U.calling g mk a) (Vm.Alike.refl U.vm) qK⟩, va_recv hK hP (ci := 11) (q := (RX9, TX9, 38)) rfl (q0 := 0) rfl, fun U hU hW => ⟨rfl, by rw [hU]; exact hP, va_K.moved hW.alike hK⟩⟩ rfl rfl hl.1 rfl (lv_room (Nat.le_of_ble_eq_true rfl)) dX9_open_195 ⟨Nat.le_of_ble_eq_true rfl, Nat.le_of_ble_eq_true rfl⟩)) (fun r_41 er_41 => ?_)
                      have k_42 := er_41
                      refine lv_bipush (v := 26) hx hb dX9_open_198 (by decide) ?_
                      have hFc := vfree (rw_D hD : va_D A (rw_W o c kc (rU (rU (rU (rU (rU (rU (rU (rU st 3 s3_165) 4 s4_165) 5 s5_165) 6 s6_165) 7 js7_17) 12 s12_165) 13 (0 : Int32)) 15 x15_5) lg (rU ai 0 a0_165) al)) hS hA
                      refine va_callv (va_runV (As := [.int r_41, .int (26 : Int32)]) (rest := []) ⟨hx, hb, hml, hown, hts⟩ (v_X9_erase l dC dI o c kc (rU (rU (rU (rU (rU (rU (rU (rU st 3 s3_165) 4 s4_165) 5 s5_165) 6 s6_165) 7 js7_17) 12 s12_165) 13 (0 : Int32)) 15 x15_5) lg (rU ai 0 a0_165) al r_41 (26 : Int32) _ (show 0 ≤ s3_165.toInt by omega) (show s3_165.toInt ≤ 1 by omega) (show 0 ≤ s6_165.toInt by omega) (show s6_165.toInt ≤ 1 by omega) (show 0 ≤ s12_165.toInt by omega) (show s12_165.toInt ≤ 8 by omega) (by omega) (by omega) (by omega) (by omega)) (cwV 2 hts gX9_open_X9_erase rfl rfl rfl (by decide +kernel) ⟨Nat.le_of_ble_eq_true rfl, Nat.le_of_ble_eq_true rfl⟩) ⟨fun a U g mk q => by obtain ⟨q0, q1, qP, qK, qD⟩ := q; exact ⟨q0, q1, qP, va_K.moved (u := U) (U := U.calling g mk a) (Vm.Alike.refl U.vm) qK, qD⟩, va_recv hK hP (ci := 11) (q := (RX9, TX9, 38)) rfl (q0 := 0) rfl, fun U hU hW => ⟨rfl, by rw [hU], by rw [hU]; exact hP, va_K.moved hW.alike hK, rw_D (hD.weaken (fun _ _ _ _ => trivial))⟩⟩ rfl rfl hl.1 rfl (lv_room (Nat.le_of_ble_eq_true rfl)) dX9_open_200 ⟨Nat.le_of_ble_eq_true rfl, Nat.le_of_ble_eq_true rfl⟩) hS (fun q _ h => hFc q h) hFc (fun ur_43 t H1 locs ht hvm er_43 hB hz1 hk1 hS => ?_)
                      obtain ⟨x3_43, x4_43, x5_43, x6_43, x12_43, f0_43, k_44, k_45, k_46, k_47, k_48, k_49, hP1⟩ := hB
                      rw [ht] at hP1
                      clear hFc hz1 hk1 hvm hP
                      subst ht
                      have hP := hP1
                      clear hP1
                      generalize t.heap = H at hP hS ⊢
                      have hP : va_P (dC, dI) vwCl (rw_W o c kc (rU (rU (rU (rU (rU (rU (rU (rU st 3 x3_43) 4 x4_43) 5 x5_43) 6 x6_43) 7 js7_17) 12 x12_43) 13 (0 : Int32)) 15 x15_5) lg (rU ai 0 f0_43) al) H := hP
                      have k_44 : 0 ≤ x3_43.toInt := k_44
                      have k_45 : x3_43.toInt ≤ 1 := k_45
                      have k_46 : 0 ≤ x6_43.toInt := k_46
                      have k_47 : x6_43.toInt ≤ 1 := k_47
                      have k_48 : 0 ≤ x12_43.toInt := k_48
                      have k_49 : x12_43.toInt ≤ 8 := k_49
                      obtain ⟨x_50, ex_50⟩ : ∃ z : Int32, z = l4_165 + (1) := ⟨_, rfl⟩
                      refine lv_iinc (v := x_50) (lv' := [(4, .int x_50), (3, .int r_2), (0, .ref o)]) hx hb dX9_open_203 hl (k := 0) rfl (by rw [ex_50]; rfl) (by decide) rfl (fun ls hl => ?_)
                      have rg2 := iv_rng l4_165
                      have hx_50 : x_50.toInt = l4_165.toInt + (1) := by rw [ex_50]; exact (iv_add (by omega) (by omega)).trans (by omega)
                      clear ex_50
                      refine lv_goto (tgt := 165) hx hb dX9_open_206 (by decide) ?_
                      exact ih165 x_50 x3_43 x4_43 x5_43 x6_43 x12_43 f0_43 _ _ _ (by omega) (by omega) (by omega) (by omega) (by omega) (by omega) (by omega) (by omega) (by omega) hP hS (lv_sub hl [0, 1, 2] rfl)
            exact loop165 (((st 1).toInt - 0 : Int).toNat + 1) (0 : Int32) x3_5 x4_5 x5_5 x6_5 x12_5 f0_5 _ _ _ (by omega) (by omega) (by omega) (by omega) (by omega) (by omega) (by omega) (by omega) (by omega) hP hS (lv_sub hl [0, 1, 2] rfl)
          refine lv_iload_n hx hb dX9_open_127 rfl (lv_at hl 0 rfl) ?_
          refine lv_sipush (v := 128) hx hb dX9_open_128 (by decide) ?_
          refine lv_icmp_ge (tgt := 158) hx hb dX9_open_131 (by decide) (fun c_51 => ?_) (fun c_51 => ?_)
          · skip
            have ic_51 := iv_le c_51
            exact join127 js3_84 js4_84 js5_84 js6_84 js12_84 ja0_84 _ _ _ (by omega) (by omega) (by omega) (by omega) (by omega) (by omega) hP hS (lv_sub hl [0, 1] rfl)
          · skip
            have ic_51 := iv_nle c_51
            refine lv_aload_n hx hb dX9_open_134 rfl (lv_at hl 1 rfl) ?_
            refine lv_iload_n hx hb dX9_open_135 rfl (lv_at hl 0 rfl) ?_
            refine vp_callSi (va_Run.run (va_runV (As := [.int r_2]) (rest := []) ⟨hx, hb, hml, hown, hts⟩ (v_X9_rowState l dC dI o c kc (rU (rU (rU (rU (rU (rU (rU (rU st 3 js3_84) 4 js4_84) 5 js5_84) 6 js6_84) 7 js7_17) 12 js12_84) 13 (0 : Int32)) 15 r_2) lg (rU ai 0 ja0_84) al r_2 (show 0 ≤ js7_17.toInt by omega) (show js7_17.toInt ≤ 1 by omega) (by omega) (by omega)) (cwV 1 hts gX9_open_X9_rowState rfl rfl rfl (by decide +kernel) ⟨Nat.le_of_ble_eq_true rfl, Nat.le_of_ble_eq_true rfl⟩) ⟨fun a U g mk q => by obtain ⟨q0, qP, qK⟩ := q; exact ⟨q0, qP, va_K.moved (u := U) (U := U.calling g mk a) (Vm.Alike.refl U.vm) qK⟩, va_recv hK hP (ci := 11) (q := (RX9, TX9, 38)) rfl (q0 := 0) rfl, fun U hU hW => ⟨rfl, by rw [hU]; exact hP, va_K.moved hW.alike hK⟩⟩ rfl rfl hl.1 rfl (lv_room (Nat.le_of_ble_eq_true rfl)) dX9_open_136 ⟨Nat.le_of_ble_eq_true rfl, Nat.le_of_ble_eq_true rfl⟩)) (fun r_52 er_52 => ?_)
            obtain ⟨k_53, k_54⟩ := er_52
            refine lv_iconst (v := 2) hx hb dX9_open_139 (by decide) ?_
            refine lv_icmp_ne (tgt := 158) hx hb dX9_open_140 (by decide) (fun c_55 => ?_) (fun c_55 => ?_)
            · skip
              have ic_55 := iv_ne c_55
              exact join127 js3_84 js4_84 js5_84 js6_84 js12_84 ja0_84 _ _ _ (by omega) (by omega) (by omega) (by omega) (by omega) (by omega) hP hS (lv_sub hl [0, 1] rfl)
            · skip
              have ic_55 := iv_eq c_55
              refine lv_aload_n hx hb dX9_open_143 rfl (lv_at hl 1 rfl) ?_
              refine lv_aload_n hx hb dX9_open_144 rfl (lv_at hl 1 rfl) ?_
              refine lv_aload_n hx hb dX9_open_145 rfl (lv_at hl 1 rfl) ?_
              refine va_get (D := (dC, dI)) (ci := 11) (v := .int js7_17) (C := RX9) (T := TX9) (N := 38) hx hb hts hin9 hown hK hP 0 rfl rfl 7 (by decide) (hts (.fieldLink RX9 76 "BlockLogModel" "area" "I") (by decide +kernel)) (fun _ h9 => h9) rfl dX9_open_146 ?_
              refine lv_iload_n hx hb dX9_open_149 rfl (lv_at hl 0 rfl) ?_
              refine vp_callSi (va_Run.run (va_runV (As := [.int js7_17, .int r_2]) (rest := [.ref o]) ⟨hx, hb, hml, hown, hts⟩ (v_X9_rowPlace l dC dI o c kc (rU (rU (rU (rU (rU (rU (rU (rU st 3 js3_84) 4 js4_84) 5 js5_84) 6 js6_84) 7 js7_17) 12 js12_84) 13 (0 : Int32)) 15 r_2) lg (rU ai 0 ja0_84) al js7_17 r_2 (by omega) (by omega) (by omega) (by omega)) (cwV 2 hts gX9_open_X9_rowPlace rfl rfl rfl (by decide +kernel) ⟨Nat.le_of_ble_eq_true rfl, Nat.le_of_ble_eq_true rfl⟩) ⟨fun a U g mk q => by obtain ⟨q0, qP, qK⟩ := q; exact ⟨q0, qP, va_K.moved (u := U) (U := U.calling g mk a) (Vm.Alike.refl U.vm) qK⟩, va_recv hK hP (ci := 11) (q := (RX9, TX9, 38)) rfl (q0 := 0) rfl, fun U hU hW => ⟨rfl, by rw [hU]; exact hP, va_K.moved hW.alike hK⟩⟩ rfl rfl hl.1 rfl (lv_room (Nat.le_of_ble_eq_true rfl)) dX9_open_150 ⟨Nat.le_of_ble_eq_true rfl, Nat.le_of_ble_eq_true rfl⟩)) (fun r_56 er_56 => ?_)
              have k_57 := er_56
              refine lv_bipush (v := 32) hx hb dX9_open_153 (by decide) ?_
              have hFc := vfree (rw_D hD : va_D A (rw_W o c kc (rU (rU (rU (rU (rU (rU (rU (rU st 3 js3_84) 4 js4_84) 5 js5_84) 6 js6_84) 7 js7_17) 12 js12_84) 13 (0 : Int32)) 15 r_2) lg (rU ai 0 ja0_84) al)) hS hA
              refine va_callv (va_runV (As := [.int r_56, .int (32 : Int32)]) (rest := []) ⟨hx, hb, hml, hown, hts⟩ (v_X9_erase l dC dI o c kc (rU (rU (rU (rU (rU (rU (rU (rU st 3 js3_84) 4 js4_84) 5 js5_84) 6 js6_84) 7 js7_17) 12 js12_84) 13 (0 : Int32)) 15 r_2) lg (rU ai 0 ja0_84) al r_56 (32 : Int32) _ (show 0 ≤ js3_84.toInt by omega) (show js3_84.toInt ≤ 1 by omega) (show 0 ≤ js6_84.toInt by omega) (show js6_84.toInt ≤ 1 by omega) (show 0 ≤ js12_84.toInt by omega) (show js12_84.toInt ≤ 8 by omega) (by omega) (by omega) (by omega) (by omega)) (cwV 2 hts gX9_open_X9_erase rfl rfl rfl (by decide +kernel) ⟨Nat.le_of_ble_eq_true rfl, Nat.le_of_ble_eq_true rfl⟩) ⟨fun a U g mk q => by obtain ⟨q0, q1, qP, qK, qD⟩ := q; exact ⟨q0, q1, qP, va_K.moved (u := U) (U := U.calling g mk a) (Vm.Alike.refl U.vm) qK, qD⟩, va_recv hK hP (ci := 11) (q := (RX9, TX9, 38)) rfl (q0 := 0) rfl, fun U hU hW => ⟨rfl, by rw [hU], by rw [hU]; exact hP, va_K.moved hW.alike hK, rw_D (hD.weaken (fun _ _ _ _ => trivial))⟩⟩ rfl rfl hl.1 rfl (lv_room (Nat.le_of_ble_eq_true rfl)) dX9_open_155 ⟨Nat.le_of_ble_eq_true rfl, Nat.le_of_ble_eq_true rfl⟩) hS (fun q _ h => hFc q h) hFc (fun ur_58 t H1 locs ht hvm er_58 hB hz1 hk1 hS => ?_)
              obtain ⟨x3_58, x4_58, x5_58, x6_58, x12_58, f0_58, k_59, k_60, k_61, k_62, k_63, k_64, hP1⟩ := hB
              rw [ht] at hP1
              clear hFc hz1 hk1 hvm hP
              subst ht
              have hP := hP1
              clear hP1
              generalize t.heap = H at hP hS ⊢
              have hP : va_P (dC, dI) vwCl (rw_W o c kc (rU (rU (rU (rU (rU (rU (rU (rU st 3 x3_58) 4 x4_58) 5 x5_58) 6 x6_58) 7 js7_17) 12 x12_58) 13 (0 : Int32)) 15 r_2) lg (rU ai 0 f0_58) al) H := hP
              have k_59 : 0 ≤ x3_58.toInt := k_59
              have k_60 : x3_58.toInt ≤ 1 := k_60
              have k_61 : 0 ≤ x6_58.toInt := k_61
              have k_62 : x6_58.toInt ≤ 1 := k_62
              have k_63 : 0 ≤ x12_58.toInt := k_63
              have k_64 : x12_58.toInt ≤ 8 := k_64
              exact join127 x3_58 x4_58 x5_58 x6_58 x12_58 f0_58 _ _ _ (by omega) (by omega) (by omega) (by omega) (by omega) (by omega) hP hS (lv_sub hl [0, 1] rfl)
        refine lv_aload_n hx hb dX9_open_84 rfl (lv_at hl 0 rfl) ?_
        refine lv_bipush (v := 16) hx hb dX9_open_85 (by decide) ?_
        refine lv_iconst (v := 1) hx hb dX9_open_87 (by decide) ?_
        refine lv_aload_n hx hb dX9_open_88 rfl (lv_at hl 0 rfl) ?_
        refine va_get (D := (dC, dI)) (ci := 11) (v := .int js7_17) (C := RX9) (T := TX9) (N := 38) hx hb hts hin9 hown hK hP 0 rfl rfl 7 (by decide) (hts (.fieldLink RX9 76 "BlockLogModel" "area" "I") (by decide +kernel)) (fun _ h9 => h9) rfl dX9_open_89 ?_
        refine lv_isub hx hb dX9_open_92 ?_
        refine lv_topi (fun v_65 ev_65 => ?_)
        have rg3 := iv_rng js7_17
        have hv_65 : v_65.toInt = 1 - js7_17.toInt := by rw [ev_65]; exact (iv_sub (by omega) (by omega)).trans (by omega)
        clear ev_65
        refine lv_imul hx hb dX9_open_93 ?_
        refine lv_topi (fun v_66 ev_66 => ?_)
        have rg4 := iv_rng v_65
        have hv_66 : v_66.toInt = 16 * v_65.toInt := by rw [ev_66]; exact (iv_mulc z_16 (by omega) (by omega)).trans (by omega)
        clear ev_66
        refine lv_bipush (v := 16) hx hb dX9_open_94 (by decide) ?_
        refine vp_callSi (va_Run.run (va_runV (As := [.int v_66, .int (16 : Int32)]) (rest := []) ⟨hx, hb, hml, hown, hts⟩ (v_X9_isEmpty l dC dI o c kc (rU (rU (rU (rU st 3 js3_17) 6 js6_17) 7 js7_17) 13 (0 : Int32)) lg ai al v_66 (16 : Int32) (by omega) (by omega) (by omega) (by omega)) (cwV 2 hts gX9_open_X9_isEmpty rfl rfl rfl (by decide +kernel) ⟨Nat.le_of_ble_eq_true rfl, Nat.le_of_ble_eq_true rfl⟩) ⟨fun a U g mk q => by obtain ⟨q0, qP, qK⟩ := q; exact ⟨q0, qP, va_K.moved (u := U) (U := U.calling g mk a) (Vm.Alike.refl U.vm) qK⟩, va_recv hK hP (ci := 11) (q := (RX9, TX9, 38)) rfl (q0 := 0) rfl, fun U hU hW => ⟨rfl, by rw [hU]; exact hP, va_K.moved hW.alike hK⟩⟩ rfl rfl hl.1 rfl (lv_room (Nat.le_of_ble_eq_true rfl)) dX9_open_96 ⟨Nat.le_of_ble_eq_true rfl, Nat.le_of_ble_eq_true rfl⟩)) (fun r_67 er_67 => ?_)
        obtain ⟨k_68, k_69, hz⟩ := er_67
        have hz : (r_67.toInt = 1 → zB (ai 0) v_66.toInt (v_66.toInt + (16 : Int32).toInt)) ∧ (r_67.toInt ≠ 1 → ¬ zB (ai 0) v_66.toInt (v_66.toInt + (16 : Int32).toInt)) := hz
        rcases iv_01 (a := r_67) (by omega) (by omega) with b_70 | b_70
        · skip
          have ib_70 := iv_eq b_70
          rw [b_70]
          refine lv_if_ne (tgt := 117) hx hb dX9_open_99 (by decide) (fun c_71 => ?_) (fun c_71 => ?_)
          · skip
            have ic_71 := iv_ne c_71
            exfalso
            omega
          · skip
            have ic_71 := iv_eq c_71
            refine lv_aload_n hx hb dX9_open_102 rfl (lv_at hl 0 rfl) ?_
            refine lv_bipush (v := 16) hx hb dX9_open_103 (by decide) ?_
            refine lv_iconst (v := 1) hx hb dX9_open_105 (by decide) ?_
            refine lv_aload_n hx hb dX9_open_106 rfl (lv_at hl 0 rfl) ?_
            refine va_get (D := (dC, dI)) (ci := 11) (v := .int js7_17) (C := RX9) (T := TX9) (N := 38) hx hb hts hin9 hown hK hP 0 rfl rfl 7 (by decide) (hts (.fieldLink RX9 76 "BlockLogModel" "area" "I") (by decide +kernel)) (fun _ h9 => h9) rfl dX9_open_107 ?_
            refine lv_isub hx hb dX9_open_110 ?_
            refine lv_topi (fun v_72 ev_72 => ?_)
            have hv_72 : v_72.toInt = 1 - js7_17.toInt := by rw [ev_72]; exact (iv_sub (by omega) (by omega)).trans (by omega)
            clear ev_72
            refine lv_imul hx hb dX9_open_111 ?_
            refine lv_topi (fun v_73 ev_73 => ?_)
            have rg5 := iv_rng v_72
            have hv_73 : v_73.toInt = 16 * v_72.toInt := by rw [ev_73]; exact (iv_mulc z_16 (by omega) (by omega)).trans (by omega)
            clear ev_73
            refine lv_bipush (v := 16) hx hb dX9_open_112 (by decide) ?_
            have hFc := vfree (rw_D hD : va_D A (rw_W o c kc (rU (rU (rU (rU st 3 js3_17) 6 js6_17) 7 js7_17) 13 (0 : Int32)) lg ai al)) hS hA
            refine va_callv (va_runV (As := [.int v_73, .int (16 : Int32)]) (rest := []) ⟨hx, hb, hml, hown, hts⟩ (v_X9_erase l dC dI o c kc (rU (rU (rU (rU st 3 js3_17) 6 js6_17) 7 js7_17) 13 (0 : Int32)) lg ai al v_73 (16 : Int32) _ (show 0 ≤ js3_17.toInt by omega) (show js3_17.toInt ≤ 1 by omega) (show 0 ≤ js6_17.toInt by omega) (show js6_17.toInt ≤ 1 by omega) (show 0 ≤ (st 12).toInt by omega) (show (st 12).toInt ≤ 8 by omega) (by omega) (by omega) (by omega) (by omega)) (cwV 2 hts gX9_open_X9_erase rfl rfl rfl (by decide +kernel) ⟨Nat.le_of_ble_eq_true rfl, Nat.le_of_ble_eq_true rfl⟩) ⟨fun a U g mk q => by obtain ⟨q0, q1, qP, qK, qD⟩ := q; exact ⟨q0, q1, qP, va_K.moved (u := U) (U := U.calling g mk a) (Vm.Alike.refl U.vm) qK, qD⟩, va_recv hK hP (ci := 11) (q := (RX9, TX9, 38)) rfl (q0 := 0) rfl, fun U hU hW => ⟨rfl, by rw [hU], by rw [hU]; exact hP, va_K.moved hW.alike hK, rw_D (hD.weaken (fun _ _ _ _ => trivial))⟩⟩ rfl rfl hl.1 rfl (lv_room (Nat.le_of_ble_eq_true rfl)) dX9_open_114 ⟨Nat.le_of_ble_eq_true rfl, Nat.le_of_ble_eq_true rfl⟩) hS (fun q _ h => hFc q h) hFc (fun ur_74 t H1 locs ht hvm er_74 hB hz1 hk1 hS => ?_)
            obtain ⟨x3_74, x4_74, x5_74, x6_74, x12_74, f0_74, k_75, k_76, k_77, k_78, k_79, k_80, hP1⟩ := hB
            rw [ht] at hP1
            clear hFc hz1 hk1 hvm hP
            subst ht
            have hP := hP1
            clear hP1
            generalize t.heap = H at hP hS ⊢
            have hP : va_P (dC, dI) vwCl (rw_W o c kc (rU (rU (rU (rU (rU (rU (rU st 3 x3_74) 4 x4_74) 5 x5_74) 6 x6_74) 7 js7_17) 12 x12_74) 13 (0 : Int32)) lg (rU ai 0 f0_74) al) H := hP
            have k_75 : 0 ≤ x3_74.toInt := k_75
            have k_76 : x3_74.toInt ≤ 1 := k_76
            have k_77 : 0 ≤ x6_74.toInt := k_77
            have k_78 : x6_74.toInt ≤ 1 := k_78
            have k_79 : 0 ≤ x12_74.toInt := k_79
            have k_80 : x12_74.toInt ≤ 8 := k_80
            exact join84 x3_74 x4_74 x5_74 x6_74 x12_74 f0_74 _ _ _ (by omega) (by omega) (by omega) (by omega) (by omega) (by omega) hP hS (lv_sub hl [0] rfl)
        · skip
          have ib_70 := iv_eq b_70
          rw [b_70]
          refine lv_if_ne (tgt := 117) hx hb dX9_open_99 (by decide) (fun c_81 => ?_) (fun c_81 => ?_)
          · skip
            have ic_81 := iv_ne c_81
            exact join84 js3_17 (st 4) (st 5) js6_17 (st 12) (ai 0) _ _ _ (by omega) (by omega) (by omega) (by omega) (by omega) (by omega) hP hS (lv_sub hl [0] rfl)
          · skip
            have ic_81 := iv_eq c_81
            exfalso
            omega
      refine lv_aload_n hx hb dX9_open_17 rfl (lv_at hl 0 rfl) ?_
      refine lv_iconst (v := 0) hx hb dX9_open_18 (by decide) ?_
      refine vp_callSi (va_Run.run (va_runV (As := [.int (0 : Int32)]) (rest := []) ⟨hx, hb, hml, hown, hts⟩ (v_X9_isHead l dC dI o c kc (rU st 13 (0 : Int32)) lg ai al (0 : Int32) (by omega) (by omega)) (cwV 1 hts gX9_open_X9_isHead rfl rfl rfl (by decide +kernel) ⟨Nat.le_of_ble_eq_true rfl, Nat.le_of_ble_eq_true rfl⟩) ⟨fun a U g mk q => by obtain ⟨q0, qP, qK⟩ := q; exact ⟨q0, qP, va_K.moved (u := U) (U := U.calling g mk a) (Vm.Alike.refl U.vm) qK⟩, va_recv hK hP (ci := 11) (q := (RX9, TX9, 38)) rfl (q0 := 0) rfl, fun U hU hW => ⟨rfl, by rw [hU]; exact hP, va_K.moved hW.alike hK⟩⟩ rfl rfl hl.1 rfl (lv_room (Nat.le_of_ble_eq_true rfl)) dX9_open_19 ⟨Nat.le_of_ble_eq_true rfl, Nat.le_of_ble_eq_true rfl⟩)) (fun r_82 er_82 => ?_)
      obtain ⟨k_83, k_84⟩ := er_82
      rcases iv_01 (a := r_82) (by omega) (by omega) with b_85 | b_85
      · skip
        have ib_85 := iv_eq b_85
        rw [b_85]
        refine lv_istore_n (lv' := [(1, .int (0 : Int32)), (0, .ref o)]) hx hb dX9_open_22 rfl hl (by decide) rfl (fun ls hl => ?_)
        refine lv_aload_n hx hb dX9_open_23 rfl (lv_at hl 1 rfl) ?_
        refine lv_iconst (v := 1) hx hb dX9_open_24 (by decide) ?_
        refine vp_callSi (va_Run.run (va_runV (As := [.int (1 : Int32)]) (rest := []) ⟨hx, hb, hml, hown, hts⟩ (v_X9_isHead l dC dI o c kc (rU st 13 (0 : Int32)) lg ai al (1 : Int32) (by omega) (by omega)) (cwV 1 hts gX9_open_X9_isHead rfl rfl rfl (by decide +kernel) ⟨Nat.le_of_ble_eq_true rfl, Nat.le_of_ble_eq_true rfl⟩) ⟨fun a U g mk q => by obtain ⟨q0, qP, qK⟩ := q; exact ⟨q0, qP, va_K.moved (u := U) (U := U.calling g mk a) (Vm.Alike.refl U.vm) qK⟩, va_recv hK hP (ci := 11) (q := (RX9, TX9, 38)) rfl (q0 := 0) rfl, fun U hU hW => ⟨rfl, by rw [hU]; exact hP, va_K.moved hW.alike hK⟩⟩ rfl rfl hl.1 rfl (lv_room (Nat.le_of_ble_eq_true rfl)) dX9_open_25 ⟨Nat.le_of_ble_eq_true rfl, Nat.le_of_ble_eq_true rfl⟩)) (fun r_86 er_86 => ?_)
        obtain ⟨k_87, k_88⟩ := er_86
        rcases iv_01 (a := r_86) (by omega) (by omega) with b_89 | b_89
        · skip
          have ib_89 := iv_eq b_89
          rw [b_89]
          refine lv_istore_n (lv' := [(2, .int (0 : Int32)), (1, .int (0 : Int32)), (0, .ref o)]) hx hb dX9_open_28 rfl hl (by decide) rfl (fun ls hl => ?_)
          refine lv_iload_n hx hb dX9_open_29 rfl (lv_at hl 1 rfl) ?_
          refine lv_if_ne (tgt := 40) hx hb dX9_open_30 (by decide) (fun c_90 => ?_) (fun c_90 => ?_)
          · skip
            have ic_90 := iv_ne c_90
            exfalso
            omega
          · skip
            have ic_90 := iv_eq c_90
            refine lv_iload_n hx hb dX9_open_33 rfl (lv_at hl 0 rfl) ?_
            refine lv_if_ne (tgt := 40) hx hb dX9_open_34 (by decide) (fun c_91 => ?_) (fun c_91 => ?_)
            · skip
              have ic_91 := iv_ne c_91
              exfalso
              omega
            · skip
              have ic_91 := iv_eq c_91
              refine lv_bipush (v := (-5)) hx hb dX9_open_37 (by decide) ?_
              exact W.iret hx hb hr (fun t ht hW => ⟨⟨_, _, rfl, rfl, st 3, st 4, st 5, st 6, st 7, st 12, (0 : Int32), st 15, ai 0, (by omega), (by omega), (by omega), (by omega), (by omega), (by omega), (by omega), (by omega), (by omega), (by omega), by rw [ht]; exact hP⟩, hS.F ht⟩) hS.2.2 dX9_open_39
        · skip
          have ib_89 := iv_eq b_89
          rw [b_89]
          refine lv_istore_n (lv' := [(2, .int (1 : Int32)), (1, .int (0 : Int32)), (0, .ref o)]) hx hb dX9_open_28 rfl hl (by decide) rfl (fun ls hl => ?_)
          refine lv_iload_n hx hb dX9_open_29 rfl (lv_at hl 1 rfl) ?_
          refine lv_if_ne (tgt := 40) hx hb dX9_open_30 (by decide) (fun c_92 => ?_) (fun c_92 => ?_)
          · skip
            have ic_92 := iv_ne c_92
            exfalso
            omega
          · skip
            have ic_92 := iv_eq c_92
            refine lv_iload_n hx hb dX9_open_33 rfl (lv_at hl 0 rfl) ?_
            refine lv_if_ne (tgt := 40) hx hb dX9_open_34 (by decide) (fun c_93 => ?_) (fun c_93 => ?_)
            · skip
              have ic_93 := iv_ne c_93
              refine lv_aload_n hx hb dX9_open_40 rfl (lv_at hl 2 rfl) ?_
              refine lv_iconst (v := 1) hx hb dX9_open_41 (by decide) ?_
              refine va_put (D := (dC, dI)) (ci := 11) (v := .int (1 : Int32)) (ty := .boolean) (C := RX9) (T := TX9) (N := 38) hx hb hts hin9 tyX9 tyX9_ok nmX9 hown hK hP (rw_D hD) hS 0 rfl rfl 3 (by decide) (hts (.fieldLink RX9 72 "BlockLogModel" "on" "Z") (by decide +kernel)) (fun _ h9 => h9) rfl (by decide +kernel) rfl rfl (Nat.le_of_ble_eq_true rfl) dX9_open_42 (fun H locs hP _ hS => ?_)
              have hP : va_P (dC, dI) vwCl (rw_W o c kc (rU (rU st 3 (1 : Int32)) 13 (0 : Int32)) lg ai al) H := hP
              refine lv_aload_n hx hb dX9_open_45 rfl (lv_at hl 2 rfl) ?_
              refine lv_iconst (v := 0) hx hb dX9_open_46 (by decide) ?_
              refine va_put (D := (dC, dI)) (ci := 11) (v := .int (0 : Int32)) (ty := .boolean) (C := RX9) (T := TX9) (N := 38) hx hb hts hin9 tyX9 tyX9_ok nmX9 hown hK hP (rw_D hD) hS 0 rfl rfl 6 (by decide) (hts (.fieldLink RX9 108 "BlockLogModel" "dark" "Z") (by decide +kernel)) (fun _ h9 => h9) rfl (by decide +kernel) rfl rfl (Nat.le_of_ble_eq_true rfl) dX9_open_47 (fun H locs hP _ hS => ?_)
              have hP : va_P (dC, dI) vwCl (rw_W o c kc (rU (rU (rU st 3 (1 : Int32)) 6 (0 : Int32)) 13 (0 : Int32)) lg ai al) H := hP
              refine lv_aload_n hx hb dX9_open_50 rfl (lv_at hl 2 rfl) ?_
              refine lv_iload_n hx hb dX9_open_51 rfl (lv_at hl 0 rfl) ?_
              refine lv_if_eq (tgt := 80) hx hb dX9_open_52 (by decide) (fun c_94 => ?_) (fun c_94 => ?_)
              · skip
                have ic_94 := iv_eq c_94
                exfalso
                omega
              · skip
                have ic_94 := iv_ne c_94
                refine lv_iload_n hx hb dX9_open_55 rfl (lv_at hl 1 rfl) ?_
                refine lv_if_eq (tgt := 76) hx hb dX9_open_56 (by decide) (fun c_95 => ?_) (fun c_95 => ?_)
                · skip
                  have ic_95 := iv_eq c_95
                  refine lv_iconst (v := 1) hx hb dX9_open_76 (by decide) ?_
                  refine lv_goto (tgt := 81) hx hb dX9_open_77 (by decide) ?_
                  refine va_put (D := (dC, dI)) (ci := 11) (v := .int (1 : Int32)) (ty := .int) (C := RX9) (T := TX9) (N := 38) hx hb hts hin9 tyX9 tyX9_ok nmX9 hown hK hP (rw_D hD) hS 0 rfl rfl 7 (by decide) (hts (.fieldLink RX9 76 "BlockLogModel" "area" "I") (by decide +kernel)) (fun _ h9 => h9) rfl (by decide +kernel) rfl rfl (Nat.le_of_ble_eq_true rfl) dX9_open_81 (fun H locs hP _ hS => ?_)
                  have hP : va_P (dC, dI) vwCl (rw_W o c kc (rU (rU (rU (rU st 3 (1 : Int32)) 6 (0 : Int32)) 7 (1 : Int32)) 13 (0 : Int32)) lg ai al) H := hP
                  exact join17 (1 : Int32) (0 : Int32) (1 : Int32) _ _ _ (by omega) (by omega) (by omega) (by omega) (by omega) (by omega) hP hS (lv_sub hl [2] rfl)
                · skip
                  have ic_95 := iv_ne c_95
                  exfalso
                  omega
            · skip
              have ic_93 := iv_eq c_93
              exfalso
              omega
      · skip
        have ib_85 := iv_eq b_85
        rw [b_85]
        refine lv_istore_n (lv' := [(1, .int (1 : Int32)), (0, .ref o)]) hx hb dX9_open_22 rfl hl (by decide) rfl (fun ls hl => ?_)
        refine lv_aload_n hx hb dX9_open_23 rfl (lv_at hl 1 rfl) ?_
        refine lv_iconst (v := 1) hx hb dX9_open_24 (by decide) ?_
        refine vp_callSi (va_Run.run (va_runV (As := [.int (1 : Int32)]) (rest := []) ⟨hx, hb, hml, hown, hts⟩ (v_X9_isHead l dC dI o c kc (rU st 13 (0 : Int32)) lg ai al (1 : Int32) (by omega) (by omega)) (cwV 1 hts gX9_open_X9_isHead rfl rfl rfl (by decide +kernel) ⟨Nat.le_of_ble_eq_true rfl, Nat.le_of_ble_eq_true rfl⟩) ⟨fun a U g mk q => by obtain ⟨q0, qP, qK⟩ := q; exact ⟨q0, qP, va_K.moved (u := U) (U := U.calling g mk a) (Vm.Alike.refl U.vm) qK⟩, va_recv hK hP (ci := 11) (q := (RX9, TX9, 38)) rfl (q0 := 0) rfl, fun U hU hW => ⟨rfl, by rw [hU]; exact hP, va_K.moved hW.alike hK⟩⟩ rfl rfl hl.1 rfl (lv_room (Nat.le_of_ble_eq_true rfl)) dX9_open_25 ⟨Nat.le_of_ble_eq_true rfl, Nat.le_of_ble_eq_true rfl⟩)) (fun r_96 er_96 => ?_)
        obtain ⟨k_97, k_98⟩ := er_96
        rcases iv_01 (a := r_96) (by omega) (by omega) with b_99 | b_99
        · skip
          have ib_99 := iv_eq b_99
          rw [b_99]
          refine lv_istore_n (lv' := [(2, .int (0 : Int32)), (1, .int (1 : Int32)), (0, .ref o)]) hx hb dX9_open_28 rfl hl (by decide) rfl (fun ls hl => ?_)
          refine lv_iload_n hx hb dX9_open_29 rfl (lv_at hl 1 rfl) ?_
          refine lv_if_ne (tgt := 40) hx hb dX9_open_30 (by decide) (fun c_100 => ?_) (fun c_100 => ?_)
          · skip
            have ic_100 := iv_ne c_100
            refine lv_aload_n hx hb dX9_open_40 rfl (lv_at hl 2 rfl) ?_
            refine lv_iconst (v := 1) hx hb dX9_open_41 (by decide) ?_
            refine va_put (D := (dC, dI)) (ci := 11) (v := .int (1 : Int32)) (ty := .boolean) (C := RX9) (T := TX9) (N := 38) hx hb hts hin9 tyX9 tyX9_ok nmX9 hown hK hP (rw_D hD) hS 0 rfl rfl 3 (by decide) (hts (.fieldLink RX9 72 "BlockLogModel" "on" "Z") (by decide +kernel)) (fun _ h9 => h9) rfl (by decide +kernel) rfl rfl (Nat.le_of_ble_eq_true rfl) dX9_open_42 (fun H locs hP _ hS => ?_)
            have hP : va_P (dC, dI) vwCl (rw_W o c kc (rU (rU st 3 (1 : Int32)) 13 (0 : Int32)) lg ai al) H := hP
            refine lv_aload_n hx hb dX9_open_45 rfl (lv_at hl 2 rfl) ?_
            refine lv_iconst (v := 0) hx hb dX9_open_46 (by decide) ?_
            refine va_put (D := (dC, dI)) (ci := 11) (v := .int (0 : Int32)) (ty := .boolean) (C := RX9) (T := TX9) (N := 38) hx hb hts hin9 tyX9 tyX9_ok nmX9 hown hK hP (rw_D hD) hS 0 rfl rfl 6 (by decide) (hts (.fieldLink RX9 108 "BlockLogModel" "dark" "Z") (by decide +kernel)) (fun _ h9 => h9) rfl (by decide +kernel) rfl rfl (Nat.le_of_ble_eq_true rfl) dX9_open_47 (fun H locs hP _ hS => ?_)
            have hP : va_P (dC, dI) vwCl (rw_W o c kc (rU (rU (rU st 3 (1 : Int32)) 6 (0 : Int32)) 13 (0 : Int32)) lg ai al) H := hP
            refine lv_aload_n hx hb dX9_open_50 rfl (lv_at hl 2 rfl) ?_
            refine lv_iload_n hx hb dX9_open_51 rfl (lv_at hl 0 rfl) ?_
            refine lv_if_eq (tgt := 80) hx hb dX9_open_52 (by decide) (fun c_101 => ?_) (fun c_101 => ?_)
            · skip
              have ic_101 := iv_eq c_101
              refine lv_iconst (v := 0) hx hb dX9_open_80 (by decide) ?_
              refine va_put (D := (dC, dI)) (ci := 11) (v := .int (0 : Int32)) (ty := .int) (C := RX9) (T := TX9) (N := 38) hx hb hts hin9 tyX9 tyX9_ok nmX9 hown hK hP (rw_D hD) hS 0 rfl rfl 7 (by decide) (hts (.fieldLink RX9 76 "BlockLogModel" "area" "I") (by decide +kernel)) (fun _ h9 => h9) rfl (by decide +kernel) rfl rfl (Nat.le_of_ble_eq_true rfl) dX9_open_81 (fun H locs hP _ hS => ?_)
              have hP : va_P (dC, dI) vwCl (rw_W o c kc (rU (rU (rU (rU st 3 (1 : Int32)) 6 (0 : Int32)) 7 (0 : Int32)) 13 (0 : Int32)) lg ai al) H := hP
              exact join17 (1 : Int32) (0 : Int32) (0 : Int32) _ _ _ (by omega) (by omega) (by omega) (by omega) (by omega) (by omega) hP hS (lv_sub hl [2] rfl)
            · skip
              have ic_101 := iv_ne c_101
              exfalso
              omega
          · skip
            have ic_100 := iv_eq c_100
            exfalso
            omega
        · skip
          have ib_99 := iv_eq b_99
          rw [b_99]
          refine lv_istore_n (lv' := [(2, .int (1 : Int32)), (1, .int (1 : Int32)), (0, .ref o)]) hx hb dX9_open_28 rfl hl (by decide) rfl (fun ls hl => ?_)
          refine lv_iload_n hx hb dX9_open_29 rfl (lv_at hl 1 rfl) ?_
          refine lv_if_ne (tgt := 40) hx hb dX9_open_30 (by decide) (fun c_102 => ?_) (fun c_102 => ?_)
          · skip
            have ic_102 := iv_ne c_102
            refine lv_aload_n hx hb dX9_open_40 rfl (lv_at hl 2 rfl) ?_
            refine lv_iconst (v := 1) hx hb dX9_open_41 (by decide) ?_
            refine va_put (D := (dC, dI)) (ci := 11) (v := .int (1 : Int32)) (ty := .boolean) (C := RX9) (T := TX9) (N := 38) hx hb hts hin9 tyX9 tyX9_ok nmX9 hown hK hP (rw_D hD) hS 0 rfl rfl 3 (by decide) (hts (.fieldLink RX9 72 "BlockLogModel" "on" "Z") (by decide +kernel)) (fun _ h9 => h9) rfl (by decide +kernel) rfl rfl (Nat.le_of_ble_eq_true rfl) dX9_open_42 (fun H locs hP _ hS => ?_)
            have hP : va_P (dC, dI) vwCl (rw_W o c kc (rU (rU st 3 (1 : Int32)) 13 (0 : Int32)) lg ai al) H := hP
            refine lv_aload_n hx hb dX9_open_45 rfl (lv_at hl 2 rfl) ?_
            refine lv_iconst (v := 0) hx hb dX9_open_46 (by decide) ?_
            refine va_put (D := (dC, dI)) (ci := 11) (v := .int (0 : Int32)) (ty := .boolean) (C := RX9) (T := TX9) (N := 38) hx hb hts hin9 tyX9 tyX9_ok nmX9 hown hK hP (rw_D hD) hS 0 rfl rfl 6 (by decide) (hts (.fieldLink RX9 108 "BlockLogModel" "dark" "Z") (by decide +kernel)) (fun _ h9 => h9) rfl (by decide +kernel) rfl rfl (Nat.le_of_ble_eq_true rfl) dX9_open_47 (fun H locs hP _ hS => ?_)
            have hP : va_P (dC, dI) vwCl (rw_W o c kc (rU (rU (rU st 3 (1 : Int32)) 6 (0 : Int32)) 13 (0 : Int32)) lg ai al) H := hP
            refine lv_aload_n hx hb dX9_open_50 rfl (lv_at hl 2 rfl) ?_
            refine lv_iload_n hx hb dX9_open_51 rfl (lv_at hl 0 rfl) ?_
            refine lv_if_eq (tgt := 80) hx hb dX9_open_52 (by decide) (fun c_103 => ?_) (fun c_103 => ?_)
            · skip
              have ic_103 := iv_eq c_103
              exfalso
              omega
            · skip
              have ic_103 := iv_ne c_103
              refine lv_iload_n hx hb dX9_open_55 rfl (lv_at hl 1 rfl) ?_
              refine lv_if_eq (tgt := 76) hx hb dX9_open_56 (by decide) (fun c_104 => ?_) (fun c_104 => ?_)
              · skip
                have ic_104 := iv_eq c_104
                exfalso
                omega
              · skip
                have ic_104 := iv_ne c_104
                refine lv_aload_n hx hb dX9_open_59 rfl (lv_at hl 2 rfl) ?_
                refine lv_bipush (v := 16) hx hb dX9_open_60 (by decide) ?_
                refine lv_iconst (v := 4) hx hb dX9_open_62 (by decide) ?_
                refine vp_callSl (va_Run.run (va_runV (As := [.int (16 : Int32), .int (4 : Int32)]) (rest := [.ref o]) ⟨hx, hb, hml, hown, hts⟩ (v_X9_number l dC dI o c kc (rU (rU (rU st 3 (1 : Int32)) 6 (0 : Int32)) 13 (0 : Int32)) lg ai al (16 : Int32) (4 : Int32) (by omega) (by omega) (by omega) (by omega)) (cwV 2 hts gX9_open_X9_number rfl rfl rfl (by decide +kernel) ⟨Nat.le_of_ble_eq_true rfl, Nat.le_of_ble_eq_true rfl⟩) ⟨fun a U g mk q => by obtain ⟨q0, qP, qK⟩ := q; exact ⟨q0, qP, va_K.moved (u := U) (U := U.calling g mk a) (Vm.Alike.refl U.vm) qK⟩, va_recv hK hP (ci := 11) (q := (RX9, TX9, 38)) rfl (q0 := 0) rfl, fun U hU hW => ⟨rfl, by rw [hU]; exact hP, va_K.moved hW.alike hK⟩⟩ rfl rfl hl.1 rfl (lv_room (Nat.le_of_ble_eq_true rfl)) dX9_open_63 ⟨Nat.le_of_ble_eq_true rfl, Nat.le_of_ble_eq_true rfl⟩)) (fun r_105 er_105 => ?_)
                have hn := er_105
                have hn : r_105 = md_num (ai 0) (16 : Int32) (4 : Int32).toNatClampNeg := hn
                refine lv_aload_n hx hb dX9_open_66 rfl (lv_at hl 2 rfl) ?_
                refine lv_iconst (v := 0) hx hb dX9_open_67 (by decide) ?_
                refine lv_iconst (v := 4) hx hb dX9_open_68 (by decide) ?_
                refine vp_callSl (va_Run.run (va_runV (As := [.int (0 : Int32), .int (4 : Int32)]) (rest := [.long r_105, .ref o]) ⟨hx, hb, hml, hown, hts⟩ (v_X9_number l dC dI o c kc (rU (rU (rU st 3 (1 : Int32)) 6 (0 : Int32)) 13 (0 : Int32)) lg ai al (0 : Int32) (4 : Int32) (by omega) (by omega) (by omega) (by omega)) (cwV 2 hts gX9_open_X9_number rfl rfl rfl (by decide +kernel) ⟨Nat.le_of_ble_eq_true rfl, Nat.le_of_ble_eq_true rfl⟩) ⟨fun a U g mk q => by obtain ⟨q0, qP, qK⟩ := q; exact ⟨q0, qP, va_K.moved (u := U) (U := U.calling g mk a) (Vm.Alike.refl U.vm) qK⟩, va_recv hK hP (ci := 11) (q := (RX9, TX9, 38)) rfl (q0 := 0) rfl, fun U hU hW => ⟨rfl, by rw [hU]; exact hP, va_K.moved hW.alike hK⟩⟩ rfl rfl hl.1 rfl (lv_room (Nat.le_of_ble_eq_true rfl)) dX9_open_69 ⟨Nat.le_of_ble_eq_true rfl, Nat.le_of_ble_eq_true rfl⟩)) (fun r_106 er_106 => ?_)
                have hn := er_106
                have hn : r_106 = md_num (ai 0) (0 : Int32) (4 : Int32).toNatClampNeg := hn
                refine W.lcmp hx hb dX9_open_72 ?_
                refine lv_topi (fun v_107 ev_107 => ?_)
                clear ev_107
                refine lv_if_lt (tgt := 80) hx hb dX9_open_73 (by decide) (fun c_108 => ?_) (fun c_108 => ?_)
                · skip
                  have ic_108 := iv_lt c_108
                  refine lv_iconst (v := 0) hx hb dX9_open_80 (by decide) ?_
                  refine va_put (D := (dC, dI)) (ci := 11) (v := .int (0 : Int32)) (ty := .int) (C := RX9) (T := TX9) (N := 38) hx hb hts hin9 tyX9 tyX9_ok nmX9 hown hK hP (rw_D hD) hS 0 rfl rfl 7 (by decide) (hts (.fieldLink RX9 76 "BlockLogModel" "area" "I") (by decide +kernel)) (fun _ h9 => h9) rfl (by decide +kernel) rfl rfl (Nat.le_of_ble_eq_true rfl) dX9_open_81 (fun H locs hP _ hS => ?_)
                  have hP : va_P (dC, dI) vwCl (rw_W o c kc (rU (rU (rU (rU st 3 (1 : Int32)) 6 (0 : Int32)) 7 (0 : Int32)) 13 (0 : Int32)) lg ai al) H := hP
                  exact join17 (1 : Int32) (0 : Int32) (0 : Int32) _ _ _ (by omega) (by omega) (by omega) (by omega) (by omega) (by omega) hP hS (lv_sub hl [2] rfl)
                · skip
                  have ic_108 := iv_nlt c_108
                  refine lv_iconst (v := 1) hx hb dX9_open_76 (by decide) ?_
                  refine lv_goto (tgt := 81) hx hb dX9_open_77 (by decide) ?_
                  refine va_put (D := (dC, dI)) (ci := 11) (v := .int (1 : Int32)) (ty := .int) (C := RX9) (T := TX9) (N := 38) hx hb hts hin9 tyX9 tyX9_ok nmX9 hown hK hP (rw_D hD) hS 0 rfl rfl 7 (by decide) (hts (.fieldLink RX9 76 "BlockLogModel" "area" "I") (by decide +kernel)) (fun _ h9 => h9) rfl (by decide +kernel) rfl rfl (Nat.le_of_ble_eq_true rfl) dX9_open_81 (fun H locs hP _ hS => ?_)
                  have hP : va_P (dC, dI) vwCl (rw_W o c kc (rU (rU (rU (rU st 3 (1 : Int32)) 6 (0 : Int32)) 7 (1 : Int32)) 13 (0 : Int32)) lg ai al) H := hP
                  exact join17 (1 : Int32) (0 : Int32) (1 : Int32) _ _ _ (by omega) (by omega) (by omega) (by omega) (by omega) (by omega) hP hS (lv_sub hl [2] rfl)
          · skip
            have ic_102 := iv_eq c_102
            exfalso
            omega
    · skip
      have ic_1 := iv_ne c_1
      refine lv_aload_n hx hb dX9_open_12 rfl (lv_at hl 0 rfl) ?_
      refine vp_callSi (va_Run.run (va_runV (As := []) (rest := []) ⟨hx, hb, hml, hown, hts⟩ (v_X9_rows l dC dI o c kc (rU st 13 (0 : Int32)) lg ai al  (show 0 ≤ (st 15).toInt by omega) (show (st 15).toInt ≤ 128 by omega)) (cwV 0 hts gX9_open_X9_rows rfl rfl rfl (by decide +kernel) ⟨Nat.le_of_ble_eq_true rfl, Nat.le_of_ble_eq_true rfl⟩) ⟨fun a U g mk q => by obtain ⟨q0, qP, qK⟩ := q; exact ⟨q0, qP, va_K.moved (u := U) (U := U.calling g mk a) (Vm.Alike.refl U.vm) qK⟩, va_recv hK hP (ci := 11) (q := (RX9, TX9, 38)) rfl (q0 := 0) rfl, fun U hU hW => ⟨rfl, by rw [hU]; exact hP, va_K.moved hW.alike hK⟩⟩ rfl rfl hl.1 rfl (lv_room (Nat.le_of_ble_eq_true rfl)) dX9_open_13 ⟨Nat.le_of_ble_eq_true rfl, Nat.le_of_ble_eq_true rfl⟩)) (fun r_109 er_109 => ?_)
      have k_110 := er_109
      have k_110 : r_109.toInt = (st 15).toInt := k_110
      exact W.iret hx hb hr (fun t ht hW => ⟨⟨_, _, rfl, rfl, st 3, st 4, st 5, st 6, st 7, st 12, (0 : Int32), st 15, ai 0, (by omega), (by omega), (by omega), (by omega), (by omega), (by omega), (by omega), (by omega), (by omega), (by omega), by rw [ht]; exact hP⟩, hS.F ht⟩) hS.2.2 dX9_open_16
  exact main s.heap [] hP hS

set_option maxHeartbeats 4000000 in
set_option maxRecDepth 100000 in
theorem v_X9_differing (l : Launch) (dC : Nat → ClassId) (dI : Nat → Nat → Nat) (p0 : Int64) (p1 : Int64)  : Met l yX9_differing wsX9_differing ({ frames := 0, cells := 0, slots := 0, locals := 0 }) (va_Pc [.long p0, .long p1] (fun U => True)) (vp_Si (fun r => True)) 0 0 (fun _ => False) := by
  refine Met.ofW (cc := cX9_differing) (maxL := 7) (ret := (some .int)) (by decide) rfl ?_
  intro p e s m args below meth c s₁ B hml hv
  obtain ⟨rfl, -⟩ := hv
  have hx := B.exec
  have hb := B.bytes
  have hr := B.returns
  have hts := atoms_spec (ws := wsX9_differing) B.pre
  have hown : s.vm.findClass RX9 = some m.cls := findClass_of_methodNamed B.named
  have hl := lv_entry ([.long p0, .long p1]) (n := 7) (Nat.le_of_ble_eq_true rfl)
  rw [lg_entry_eq]
  generalize (lg_sl ([.long p0, .long p1]) ++ List.replicate (7 - (lg_sl ([.long p0, .long p1])).length) Slot.unset).toArray = ls at hl ⊢
  have hl : lv_has ls 7 [(0, .long p0), (2, .long p1)] := hl
  have z_0 : (0 : Int32).toInt = 0 := by decide
  have z_1 : (1 : Int32).toInt = 1 := by decide
  have z_8 : (8 : Int32).toInt = 8 := by decide
  refine lv_iconst (v := 0) hx hb dX9_differing_0 (by decide) ?_
  refine lv_istore (lv' := [(4, .int (0 : Int32)), (0, .long p0), (2, .long p1)]) hx hb dX9_differing_1 hl (by decide) rfl (fun ls hl => ?_)
  refine lv_lload_n hx hb dX9_differing_3 rfl (lv_at hl 1 rfl) ?_
  refine lv_lload_n hx hb dX9_differing_4 rfl (lv_at hl 2 rfl) ?_
  refine lv_lxor hx hb dX9_differing_5 ?_
  refine lv_topl (fun w_1 ew_1 => ?_)
  refine lv_lstore (lv' := [(5, .long w_1), (4, .int (0 : Int32)), (0, .long p0), (2, .long p1)]) hx hb dX9_differing_6 hl (by decide) rfl (fun ls hl => ?_)
  have loop8 : ∀ (n : Nat) (l5_8 : Int64) (l4_8 : Int32) (ls : Array Slot), l5_8.toUInt64.toNat < n → lv_has ls 7 [(5, .long l5_8), (4, .int l4_8), (0, .long p0), (2, .long p1)] → W p l e (headSpec wsX9_differing ({ frames := 0, cells := 0, slots := 0, locals := 0 })).room s m ([.long p0, .long p1] : List Value).toArray below meth c s.heap [] 0 0 (MQ below (vp_Si (fun r => True)) ([.long p0, .long p1] : List Value).toArray s 0 0 (fun _ => False)) (F0 m 8 ls []) := by
    intro n
    induction n with
    | zero => intro l5_8 l4_8 ls  hm; exact absurd hm (Nat.not_lt_zero _)
    | succ n ih8 =>
      intro l5_8 l4_8 ls  hm8 hl
      refine lv_lload hx hb dX9_differing_8 (lv_at hl 0 rfl) ?_
      refine lv_lconst (v := 0) hx hb dX9_differing_10 (by decide) ?_
      refine W.lcmp hx hb dX9_differing_11 ?_
      refine lv_topi (fun v_2 ev_2 => ?_)
      refine lv_if_eq (tgt := 46) hx hb dX9_differing_12 (by decide) (fun c_3 => ?_) (fun c_3 => ?_)
      · skip
        have ic_3 := iv_eq c_3
        refine lv_iload hx hb dX9_differing_46 (lv_at hl 1 rfl) ?_
        exact W.iret hx hb hr (fun t ht hW => ⟨_, rfl, trivial, ht⟩) (fun q h => by cases h) dX9_differing_48
      · skip
        have ic_3 := iv_ne c_3
        refine lv_iload hx hb dX9_differing_15 (lv_at hl 1 rfl) ?_
        refine lv_lload hx hb dX9_differing_17 (lv_at hl 0 rfl) ?_
        refine lv_ldc2 hx hb hown (hts (.constantLong RX9 94 (255)) (by decide +kernel)) dX9_differing_19 ?_
        refine lv_land hx hb dX9_differing_22 ?_
        refine lv_topl (fun w_4 ew_4 => ?_)
        have hw_4 : 0 ≤ w_4.toInt32.toInt ∧ w_4.toInt32.toInt ≤ 255 := by rw [ew_4]; exact l255 _
        refine lv_lconst (v := 0) hx hb dX9_differing_23 (by decide) ?_
        refine W.lcmp hx hb dX9_differing_24 ?_
        refine lv_topi (fun v_5 ev_5 => ?_)
        refine lv_if_eq (tgt := 32) hx hb dX9_differing_25 (by decide) (fun c_6 => ?_) (fun c_6 => ?_)
        · skip
          have ic_6 := iv_eq c_6
          refine lv_iconst (v := 0) hx hb dX9_differing_32 (by decide) ?_
          refine lv_iadd hx hb dX9_differing_33 ?_
          refine lv_topi (fun v_7 ev_7 => ?_)
          have rg1 := iv_rng l4_8
          have hv_7 : v_7.toInt = l4_8.toInt + 0 := by rw [ev_7]; exact (iv_add (by omega) (by omega)).trans (by omega)
          refine lv_istore (lv' := [(4, .int v_7), (5, .long l5_8), (0, .long p0), (2, .long p1)]) hx hb dX9_differing_34 hl (by decide) rfl (fun ls hl => ?_)
          refine lv_lload hx hb dX9_differing_36 (lv_at hl 1 rfl) ?_
          refine lv_bipush (v := 8) hx hb dX9_differing_38 (by decide) ?_
          refine lv_lushr hx hb dX9_differing_40 rfl ?_
          refine lv_topl (fun w_8 ew_8 => ?_)
          refine lv_lstore (lv' := [(5, .long w_8), (4, .int v_7), (0, .long p0), (2, .long p1)]) hx hb dX9_differing_41 hl (by decide) rfl (fun ls hl => ?_)
          refine lv_goto (tgt := 8) hx hb dX9_differing_43 (by decide) ?_
          exact ih8 w_8 v_7 _ (by subst_vars; exact Nat.lt_of_lt_of_le (lu_dec rfl (by assumption)) (Nat.le_of_lt_succ hm8)) (lv_sub hl [0, 1, 2, 3] rfl)
        · skip
          have ic_6 := iv_ne c_6
          refine lv_iconst (v := 1) hx hb dX9_differing_28 (by decide) ?_
          refine lv_goto (tgt := 33) hx hb dX9_differing_29 (by decide) ?_
          refine lv_iadd hx hb dX9_differing_33 ?_
          refine lv_topi (fun v_9 ev_9 => ?_)
          refine lv_istore (lv' := [(4, .int v_9), (5, .long l5_8), (0, .long p0), (2, .long p1)]) hx hb dX9_differing_34 hl (by decide) rfl (fun ls hl => ?_)
          refine lv_lload hx hb dX9_differing_36 (lv_at hl 1 rfl) ?_
          refine lv_bipush (v := 8) hx hb dX9_differing_38 (by decide) ?_
          refine lv_lushr hx hb dX9_differing_40 rfl ?_
          refine lv_topl (fun w_10 ew_10 => ?_)
          refine lv_lstore (lv' := [(5, .long w_10), (4, .int v_9), (0, .long p0), (2, .long p1)]) hx hb dX9_differing_41 hl (by decide) rfl (fun ls hl => ?_)
          refine lv_goto (tgt := 8) hx hb dX9_differing_43 (by decide) ?_
          exact ih8 w_10 v_9 _ (by subst_vars; exact Nat.lt_of_lt_of_le (lu_dec rfl (by assumption)) (Nat.le_of_lt_succ hm8)) (lv_sub hl [0, 1, 2, 3] rfl)
  exact loop8 (w_1.toUInt64.toNat + 1) w_1 (0 : Int32) _ (by omega) (lv_sub hl [0, 1, 2, 3] rfl)

set_option maxHeartbeats 4000000 in
set_option maxRecDepth 100000 in
theorem v_X9_mend (l : Launch) (dC : Nat → ClassId) (dI : Nat → Nat → Nat) (o : Nat) (c : Nat → Nat) (kc : Nat → ClassId) (st : Nat → Int32) (lg : Nat → Int64) (ai : Nat → Nat → Int32) (al : Nat → Nat → Int64) (p0 : Int32) (sz : Nat) (hf1a : 1 ≤ (st 1).toInt) (hf1b : (st 1).toInt ≤ 65536) (hf3a : 0 ≤ (st 3).toInt) (hf3b : (st 3).toInt ≤ 1) (hf6a : 0 ≤ (st 6).toInt) (hf6b : (st 6).toInt ≤ 1) (hf7a : 0 ≤ (st 7).toInt) (hf7b : (st 7).toInt ≤ 1) (hf9a : 0 ≤ (st 9).toInt) (hf9b : (st 9).toInt ≤ 400) (hf12a : 0 ≤ (st 12).toInt) (hf12b : (st 12).toInt ≤ 8) (hf15a : 0 ≤ (st 15).toInt) (hf15b : (st 15).toInt ≤ 128) (hR8 : aR (ai 8) 400 (0) 255) : Met l yX9_mend wsX9_mend ({ frames := 7, cells := 0, slots := 0, locals := 160 }) (va_Pc [.ref o, .int p0] (fun U => U.heap.size = sz ∧ va_P (dC, dI) vwCl (rw_W o c kc st lg ai al) U.heap ∧ va_K (dC, dI) vwCl (rw_T kc) U ∧ va_D (fun _ => True) (rw_W o c kc st lg ai al))) (va_Qi (fun r (u : Int32) => r = u) (fun u t => ∃ (x3 : Int32) (x4 : Int32) (x5 : Int32) (x6 : Int32) (x9 : Int32) (x12 : Int32) (x13 : Int32) (x15 : Int32) (f0 : Nat → Int32) (f14 : Nat → Int32), (0 ≤ x3.toInt) ∧ (x3.toInt ≤ 1) ∧ (0 ≤ x6.toInt) ∧ (x6.toInt ≤ 1) ∧ (0 ≤ x9.toInt) ∧ (x9.toInt ≤ 400) ∧ (0 ≤ x12.toInt) ∧ (x12.toInt ≤ 8) ∧ (0 ≤ x15.toInt) ∧ (x15.toInt ≤ 128) ∧ va_P (dC, dI) vwCl (rw_W o c kc (rU (rU (rU (rU (rU (rU (rU (rU st 3 x3) 4 x4) 5 x5) 6 x6) 9 x9) 12 x12) 13 x13) 15 x15) lg (rU (rU ai 0 f0) 14 f14) al) t.heap) (va_A (rw_W o c kc st lg ai al) sz)) 0 0 (va_A (rw_W o c kc st lg ai al) sz) := by
  refine Met.ofW (cc := cX9_mend) (maxL := 10) (ret := (some .int)) (by decide) rfl ?_
  intro p e s m args below meth cM s₁ B hml hv
  obtain ⟨rfl, hsz, hP, hK, hD0⟩ := hv
  have hx := B.exec
  have hb := B.bytes
  have hr := B.returns
  have hts := atoms_spec (ws := wsX9_mend) B.pre
  have hown : s.vm.findClass RX9 = some m.cls := findClass_of_methodNamed B.named
  subst hsz
  have hD := hD0.self (sz := s.heap.size)
  generalize hAe : va_A (rw_W o c kc st lg ai al) s.heap.size = A at hD ⊢
  have hA : ∀ q : Nat, s.heap.size ≤ q → A q := fun q h => by rw [← hAe]; exact Or.inr h
  have hS : va_S A s.heap s.heap [] := va_S.rf
  clear hAe hD0
  have hl := lv_entry ([.ref o, .int p0]) (n := 10) (Nat.le_of_ble_eq_true rfl)
  rw [lg_entry_eq]
  generalize (lg_sl ([.ref o, .int p0]) ++ List.replicate (10 - (lg_sl ([.ref o, .int p0])).length) Slot.unset).toArray = ls at hl ⊢
  have hl : lv_has ls 10 [(0, .ref o), (1, .int p0)] := hl
  have z_m10 : (-10 : Int32).toInt = -10 := by decide
  have z_m4 : (-4 : Int32).toInt = -4 := by decide
  have z_0 : (0 : Int32).toInt = 0 := by decide
  have z_1 : (1 : Int32).toInt = 1 := by decide
  have z_2 : (2 : Int32).toInt = 2 := by decide
  have z_3 : (3 : Int32).toInt = 3 := by decide
  have z_8 : (8 : Int32).toInt = 8 := by decide
  have z_9 : (9 : Int32).toInt = 9 := by decide
  have z_16 : (16 : Int32).toInt = 16 := by decide
  have z_17 : (17 : Int32).toInt = 17 := by decide
  have z_23 : (23 : Int32).toInt = 23 := by decide
  have z_128 : (128 : Int32).toInt = 128 := by decide
  have z_165 : (165 : Int32).toInt = 165 := by decide
  have hin9 : ∀ w ∈ u_ws RX9 TX9 38, w ∈ wsX9_mend := by decide +kernel
  have main : ∀ (H : Heap) (locs : List Loc), va_P (dC, dI) vwCl (rw_W o c kc st lg ai al) H → va_S A s.heap H locs → W p l e (headSpec wsX9_mend ({ frames := 7, cells := 0, slots := 0, locals := 160 })).room s m ([.ref o, .int p0] : List Value).toArray below meth cM H locs 0 0 (MQ below (va_Qi (fun r (u : Int32) => r = u) (fun u t => ∃ (x3 : Int32) (x4 : Int32) (x5 : Int32) (x6 : Int32) (x9 : Int32) (x12 : Int32) (x13 : Int32) (x15 : Int32) (f0 : Nat → Int32) (f14 : Nat → Int32), (0 ≤ x3.toInt) ∧ (x3.toInt ≤ 1) ∧ (0 ≤ x6.toInt) ∧ (x6.toInt ≤ 1) ∧ (0 ≤ x9.toInt) ∧ (x9.toInt ≤ 400) ∧ (0 ≤ x12.toInt) ∧ (x12.toInt ≤ 8) ∧ (0 ≤ x15.toInt) ∧ (x15.toInt ≤ 128) ∧ va_P (dC, dI) vwCl (rw_W o c kc (rU (rU (rU (rU (rU (rU (rU (rU st 3 x3) 4 x4) 5 x5) 6 x6) 9 x9) 12 x12) 13 x13) 15 x15) lg (rU (rU ai 0 f0) 14 f14) al) t.heap) A) ([.ref o, .int p0] : List Value).toArray s 0 0 A) (F0 m 0 ls []) := by
    intro H locs hP hS
    refine lv_aload_n hx hb dX9_mend_0 rfl (lv_at hl 0 rfl) ?_
    have join1 : ∀ (jt_1 : Int32) (H : Heap) (locs : List Loc) (ls : Array Slot), (0 ≤ jt_1.toInt) → (jt_1.toInt ≤ 2) → (jt_1.toInt = 0 → 0 ≤ p0.toInt) → (jt_1.toInt = 0 → p0.toInt < 128 + (st 1).toInt) → va_P (dC, dI) vwCl (rw_W o c kc st lg ai al) H → va_S A s.heap H locs → lv_has ls 10 [(0, .ref o), (1, .int p0)] → W p l e (headSpec wsX9_mend ({ frames := 7, cells := 0, slots := 0, locals := 160 })).room s m ([.ref o, .int p0] : List Value).toArray below meth cM H locs 0 0 (MQ below (va_Qi (fun r (u : Int32) => r = u) (fun u t => ∃ (x3 : Int32) (x4 : Int32) (x5 : Int32) (x6 : Int32) (x9 : Int32) (x12 : Int32) (x13 : Int32) (x15 : Int32) (f0 : Nat → Int32) (f14 : Nat → Int32), (0 ≤ x3.toInt) ∧ (x3.toInt ≤ 1) ∧ (0 ≤ x6.toInt) ∧ (x6.toInt ≤ 1) ∧ (0 ≤ x9.toInt) ∧ (x9.toInt ≤ 400) ∧ (0 ≤ x12.toInt) ∧ (x12.toInt ≤ 8) ∧ (0 ≤ x15.toInt) ∧ (x15.toInt ≤ 128) ∧ va_P (dC, dI) vwCl (rw_W o c kc (rU (rU (rU (rU (rU (rU (rU (rU st 3 x3) 4 x4) 5 x5) 6 x6) 9 x9) 12 x12) 13 x13) 15 x15) lg (rU (rU ai 0 f0) 14 f14) al) t.heap) A) ([.ref o, .int p0] : List Value).toArray s 0 0 A) (F0 m 25 ls [.int jt_1, .ref o]) := by
      intro jt_1 H locs ls ij0_1 ij1_1 ij2_1 ij3_1 hP hS hl
      refine va_put (D := (dC, dI)) (ci := 11) (v := .int jt_1) (ty := .int) (C := RX9) (T := TX9) (N := 38) hx hb hts hin9 tyX9 tyX9_ok nmX9 hown hK hP (rw_D hD) hS 0 rfl rfl 13 (by decide) (hts (.fieldLink RX9 91 "BlockLogModel" "thrown" "I") (by decide +kernel)) (fun _ h9 => h9) rfl (by decide +kernel) rfl rfl (Nat.le_of_ble_eq_true rfl) dX9_mend_25 (fun H locs hP _ hS => ?_)
      have hP : va_P (dC, dI) vwCl (rw_W o c kc (rU st 13 jt_1) lg ai al) H := hP
      refine lv_aload_n hx hb dX9_mend_28 rfl (lv_at hl 0 rfl) ?_
      refine va_get (D := (dC, dI)) (ci := 11) (v := .int jt_1) (C := RX9) (T := TX9) (N := 38) hx hb hts hin9 hown hK hP 0 rfl rfl 13 (by decide) (hts (.fieldLink RX9 91 "BlockLogModel" "thrown" "I") (by decide +kernel)) (fun _ h9 => h9) rfl dX9_mend_29 ?_
      refine lv_if_le (tgt := 37) hx hb dX9_mend_32 (by decide) (fun c_1 => ?_) (fun c_1 => ?_)
      · skip
        have ic_1 := iv_le c_1
        have join37 : ∀ (jt_37 : Int32) (H : Heap) (locs : List Loc) (ls : Array Slot), (0 ≤ jt_37.toInt) → (jt_37.toInt ≤ 1) → (jt_37.toInt = 1 → p0.toInt < 128) → (jt_37.toInt = 0 → 128 ≤ p0.toInt) → va_P (dC, dI) vwCl (rw_W o c kc (rU st 13 jt_1) lg ai al) H → va_S A s.heap H locs → lv_has ls 10 [(0, .ref o), (1, .int p0)] → W p l e (headSpec wsX9_mend ({ frames := 7, cells := 0, slots := 0, locals := 160 })).room s m ([.ref o, .int p0] : List Value).toArray below meth cM H locs 0 0 (MQ below (va_Qi (fun r (u : Int32) => r = u) (fun u t => ∃ (x3 : Int32) (x4 : Int32) (x5 : Int32) (x6 : Int32) (x9 : Int32) (x12 : Int32) (x13 : Int32) (x15 : Int32) (f0 : Nat → Int32) (f14 : Nat → Int32), (0 ≤ x3.toInt) ∧ (x3.toInt ≤ 1) ∧ (0 ≤ x6.toInt) ∧ (x6.toInt ≤ 1) ∧ (0 ≤ x9.toInt) ∧ (x9.toInt ≤ 400) ∧ (0 ≤ x12.toInt) ∧ (x12.toInt ≤ 8) ∧ (0 ≤ x15.toInt) ∧ (x15.toInt ≤ 128) ∧ va_P (dC, dI) vwCl (rw_W o c kc (rU (rU (rU (rU (rU (rU (rU (rU st 3 x3) 4 x4) 5 x5) 6 x6) 9 x9) 12 x12) 13 x13) 15 x15) lg (rU (rU ai 0 f0) 14 f14) al) t.heap) A) ([.ref o, .int p0] : List Value).toArray s 0 0 A) (F0 m 49 ls [.int jt_37]) := by
          intro jt_37 H locs ls ij0_37 ij1_37 ij2_37 ij3_37 hP hS hl
          refine lv_istore_n (lv' := [(2, .int jt_37), (0, .ref o), (1, .int p0)]) hx hb dX9_mend_49 rfl hl (by decide) rfl (fun ls hl => ?_)
          have join50 : ∀ (jt_50 : Int32) (H : Heap) (locs : List Loc) (ls : Array Slot), (32 ≤ jt_50.toInt) → (jt_50.toInt + 32 ≤ 1712160 ∨ jt_50.toInt + 26 ≤ 1712160) → (jt_37.toInt = 1 → jt_50.toInt + 32 ≤ 8224) → (jt_50.toInt + 26 ≤ 1712160) → va_P (dC, dI) vwCl (rw_W o c kc (rU st 13 jt_1) lg ai al) H → va_S A s.heap H locs → lv_has ls 10 [(2, .int jt_37), (0, .ref o), (1, .int p0)] → W p l e (headSpec wsX9_mend ({ frames := 7, cells := 0, slots := 0, locals := 160 })).room s m ([.ref o, .int p0] : List Value).toArray below meth cM H locs 0 0 (MQ below (va_Qi (fun r (u : Int32) => r = u) (fun u t => ∃ (x3 : Int32) (x4 : Int32) (x5 : Int32) (x6 : Int32) (x9 : Int32) (x12 : Int32) (x13 : Int32) (x15 : Int32) (f0 : Nat → Int32) (f14 : Nat → Int32), (0 ≤ x3.toInt) ∧ (x3.toInt ≤ 1) ∧ (0 ≤ x6.toInt) ∧ (x6.toInt ≤ 1) ∧ (0 ≤ x9.toInt) ∧ (x9.toInt ≤ 400) ∧ (0 ≤ x12.toInt) ∧ (x12.toInt ≤ 8) ∧ (0 ≤ x15.toInt) ∧ (x15.toInt ≤ 128) ∧ va_P (dC, dI) vwCl (rw_W o c kc (rU (rU (rU (rU (rU (rU (rU (rU st 3 x3) 4 x4) 5 x5) 6 x6) 9 x9) 12 x12) 13 x13) 15 x15) lg (rU (rU ai 0 f0) 14 f14) al) t.heap) A) ([.ref o, .int p0] : List Value).toArray s 0 0 A) (F0 m 75 ls [.int jt_50]) := by
            intro jt_50 H locs ls ij0_50 ij1_50 ij2_50 ij3_50 hP hS hl
            refine lv_istore_n (lv' := [(3, .int jt_50), (2, .int jt_37), (0, .ref o), (1, .int p0)]) hx hb dX9_mend_75 rfl hl (by decide) rfl (fun ls hl => ?_)
            have join76 : ∀ (jt_76 : Int32) (H : Heap) (locs : List Loc) (ls : Array Slot), (jt_37.toInt = 1 → jt_76.toInt = 23) → (jt_37.toInt = 0 → jt_76.toInt = 17) → (17 ≤ jt_76.toInt) → (jt_76.toInt ≤ 23) → va_P (dC, dI) vwCl (rw_W o c kc (rU st 13 jt_1) lg ai al) H → va_S A s.heap H locs → lv_has ls 10 [(3, .int jt_50), (2, .int jt_37), (0, .ref o), (1, .int p0)] → W p l e (headSpec wsX9_mend ({ frames := 7, cells := 0, slots := 0, locals := 160 })).room s m ([.ref o, .int p0] : List Value).toArray below meth cM H locs 0 0 (MQ below (va_Qi (fun r (u : Int32) => r = u) (fun u t => ∃ (x3 : Int32) (x4 : Int32) (x5 : Int32) (x6 : Int32) (x9 : Int32) (x12 : Int32) (x13 : Int32) (x15 : Int32) (f0 : Nat → Int32) (f14 : Nat → Int32), (0 ≤ x3.toInt) ∧ (x3.toInt ≤ 1) ∧ (0 ≤ x6.toInt) ∧ (x6.toInt ≤ 1) ∧ (0 ≤ x9.toInt) ∧ (x9.toInt ≤ 400) ∧ (0 ≤ x12.toInt) ∧ (x12.toInt ≤ 8) ∧ (0 ≤ x15.toInt) ∧ (x15.toInt ≤ 128) ∧ va_P (dC, dI) vwCl (rw_W o c kc (rU (rU (rU (rU (rU (rU (rU (rU st 3 x3) 4 x4) 5 x5) 6 x6) 9 x9) 12 x12) 13 x13) 15 x15) lg (rU (rU ai 0 f0) 14 f14) al) t.heap) A) ([.ref o, .int p0] : List Value).toArray s 0 0 A) (F0 m 87 ls [.int jt_76]) := by
              intro jt_76 H locs ls ij0_76 ij1_76 ij2_76 ij3_76 hP hS hl
              refine lv_istore (lv' := [(4, .int jt_76), (3, .int jt_50), (2, .int jt_37), (0, .ref o), (1, .int p0)]) hx hb dX9_mend_87 hl (by decide) rfl (fun ls hl => ?_)
              have join89 : ∀ (H : Heap) (locs : List Loc) (ls : Array Slot), va_P (dC, dI) vwCl (rw_W o c kc (rU st 13 jt_1) lg ai al) H → va_S A s.heap H locs → lv_has ls 10 [(4, .int jt_76), (3, .int jt_50), (2, .int jt_37), (0, .ref o), (1, .int p0)] → W p l e (headSpec wsX9_mend ({ frames := 7, cells := 0, slots := 0, locals := 160 })).room s m ([.ref o, .int p0] : List Value).toArray below meth cM H locs 0 0 (MQ below (va_Qi (fun r (u : Int32) => r = u) (fun u t => ∃ (x3 : Int32) (x4 : Int32) (x5 : Int32) (x6 : Int32) (x9 : Int32) (x12 : Int32) (x13 : Int32) (x15 : Int32) (f0 : Nat → Int32) (f14 : Nat → Int32), (0 ≤ x3.toInt) ∧ (x3.toInt ≤ 1) ∧ (0 ≤ x6.toInt) ∧ (x6.toInt ≤ 1) ∧ (0 ≤ x9.toInt) ∧ (x9.toInt ≤ 400) ∧ (0 ≤ x12.toInt) ∧ (x12.toInt ≤ 8) ∧ (0 ≤ x15.toInt) ∧ (x15.toInt ≤ 128) ∧ va_P (dC, dI) vwCl (rw_W o c kc (rU (rU (rU (rU (rU (rU (rU (rU st 3 x3) 4 x4) 5 x5) 6 x6) 9 x9) 12 x12) 13 x13) 15 x15) lg (rU (rU ai 0 f0) 14 f14) al) t.heap) A) ([.ref o, .int p0] : List Value).toArray s 0 0 A) (F0 m 121 ls []) := by
                intro H locs ls  hP hS hl
                have join121 : ∀ (ja14_121 : Nat → Int32) (H : Heap) (locs : List Loc) (ls : Array Slot), va_P (dC, dI) vwCl (rw_W o c kc (rU st 13 jt_1) lg (rU ai 14 ja14_121) al) H → va_S A s.heap H locs → lv_has ls 10 [(4, .int jt_76), (3, .int jt_50), (2, .int jt_37), (0, .ref o), (1, .int p0)] → W p l e (headSpec wsX9_mend ({ frames := 7, cells := 0, slots := 0, locals := 160 })).room s m ([.ref o, .int p0] : List Value).toArray below meth cM H locs 0 0 (MQ below (va_Qi (fun r (u : Int32) => r = u) (fun u t => ∃ (x3 : Int32) (x4 : Int32) (x5 : Int32) (x6 : Int32) (x9 : Int32) (x12 : Int32) (x13 : Int32) (x15 : Int32) (f0 : Nat → Int32) (f14 : Nat → Int32), (0 ≤ x3.toInt) ∧ (x3.toInt ≤ 1) ∧ (0 ≤ x6.toInt) ∧ (x6.toInt ≤ 1) ∧ (0 ≤ x9.toInt) ∧ (x9.toInt ≤ 400) ∧ (0 ≤ x12.toInt) ∧ (x12.toInt ≤ 8) ∧ (0 ≤ x15.toInt) ∧ (x15.toInt ≤ 128) ∧ va_P (dC, dI) vwCl (rw_W o c kc (rU (rU (rU (rU (rU (rU (rU (rU st 3 x3) 4 x4) 5 x5) 6 x6) 9 x9) 12 x12) 13 x13) 15 x15) lg (rU (rU ai 0 f0) 14 f14) al) t.heap) A) ([.ref o, .int p0] : List Value).toArray s 0 0 A) (F0 m 162 ls []) := by
                  intro ja14_121 H locs ls  hP hS hl
                  refine lv_aload_n hx hb dX9_mend_162 rfl (lv_at hl 3 rfl) ?_
                  have join163 : ∀ (jt_163 : Int32) (H : Heap) (locs : List Loc) (ls : Array Slot), (2 ≤ jt_163.toInt) → (jt_163.toInt ≤ 3) → va_P (dC, dI) vwCl (rw_W o c kc (rU st 13 jt_1) lg (rU ai 14 ja14_121) al) H → va_S A s.heap H locs → lv_has ls 10 [(4, .int jt_76), (3, .int jt_50), (2, .int jt_37), (0, .ref o), (1, .int p0)] → W p l e (headSpec wsX9_mend ({ frames := 7, cells := 0, slots := 0, locals := 160 })).room s m ([.ref o, .int p0] : List Value).toArray below meth cM H locs 0 0 (MQ below (va_Qi (fun r (u : Int32) => r = u) (fun u t => ∃ (x3 : Int32) (x4 : Int32) (x5 : Int32) (x6 : Int32) (x9 : Int32) (x12 : Int32) (x13 : Int32) (x15 : Int32) (f0 : Nat → Int32) (f14 : Nat → Int32), (0 ≤ x3.toInt) ∧ (x3.toInt ≤ 1) ∧ (0 ≤ x6.toInt) ∧ (x6.toInt ≤ 1) ∧ (0 ≤ x9.toInt) ∧ (x9.toInt ≤ 400) ∧ (0 ≤ x12.toInt) ∧ (x12.toInt ≤ 8) ∧ (0 ≤ x15.toInt) ∧ (x15.toInt ≤ 128) ∧ va_P (dC, dI) vwCl (rw_W o c kc (rU (rU (rU (rU (rU (rU (rU (rU st 3 x3) 4 x4) 5 x5) 6 x6) 9 x9) 12 x12) 13 x13) 15 x15) lg (rU (rU ai 0 f0) 14 f14) al) t.heap) A) ([.ref o, .int p0] : List Value).toArray s 0 0 A) (F0 m 172 ls [.int jt_163, .ref o]) := by
                    intro jt_163 H locs ls ij0_163 ij1_163 hP hS hl
                    refine lv_iload hx hb dX9_mend_172 (lv_at hl 0 rfl) ?_
                    refine vp_callSl (va_Run.run (va_runV (As := [.int jt_163, .int jt_76]) (rest := []) ⟨hx, hb, hml, hown, hts⟩ (v_X9_freshSum l dC dI o c kc (rU st 13 jt_1) lg (rU ai 14 ja14_121) al jt_163 jt_76 (by omega) (by omega)) (cwV 2 hts gX9_mend_X9_freshSum rfl rfl rfl (by decide +kernel) ⟨Nat.le_of_ble_eq_true rfl, Nat.le_of_ble_eq_true rfl⟩) ⟨fun a U g mk q => by obtain ⟨q0, qP, qK⟩ := q; exact ⟨q0, qP, va_K.moved (u := U) (U := U.calling g mk a) (Vm.Alike.refl U.vm) qK⟩, va_recv hK hP (ci := 11) (q := (RX9, TX9, 38)) rfl (q0 := 0) rfl, fun U hU hW => ⟨rfl, by rw [hU]; exact hP, va_K.moved hW.alike hK⟩⟩ rfl rfl hl.1 rfl (lv_room (Nat.le_of_ble_eq_true rfl)) dX9_mend_174 ⟨Nat.le_of_ble_eq_true rfl, Nat.le_of_ble_eq_true rfl⟩)) (fun r_2 er_2 => ?_)
                    refine lv_lstore (lv' := [(5, .long r_2), (4, .int jt_76), (3, .int jt_50), (2, .int jt_37), (0, .ref o), (1, .int p0)]) hx hb dX9_mend_177 hl (by decide) rfl (fun ls hl => ?_)
                    refine lv_iconst (v := 1) hx hb dX9_mend_179 (by decide) ?_
                    refine lv_istore (lv' := [(7, .int (1 : Int32)), (5, .long r_2), (4, .int jt_76), (3, .int jt_50), (2, .int jt_37), (0, .ref o), (1, .int p0)]) hx hb dX9_mend_180 hl (by decide) rfl (fun ls hl => ?_)
                    refine lv_iconst (v := 0) hx hb dX9_mend_182 (by decide) ?_
                    refine lv_istore (lv' := [(8, .int (0 : Int32)), (7, .int (1 : Int32)), (5, .long r_2), (4, .int jt_76), (3, .int jt_50), (2, .int jt_37), (0, .ref o), (1, .int p0)]) hx hb dX9_mend_183 hl (by decide) rfl (fun ls hl => ?_)
                    have loop185 : ∀ (n : Nat) (l8_185 : Int32) (l7_185 : Int32) (H : Heap) (locs : List Loc) (ls : Array Slot), (0 ≤ l8_185.toInt) → (l8_185.toInt ≤ jt_76.toInt) → (0 ≤ l7_185.toInt) → (l7_185.toInt ≤ 1) → (jt_76.toInt - l8_185.toInt : Int).toNat < n → va_P (dC, dI) vwCl (rw_W o c kc (rU st 13 jt_1) lg (rU ai 14 ja14_121) al) H → va_S A s.heap H locs → lv_has ls 10 [(8, .int l8_185), (7, .int l7_185), (5, .long r_2), (4, .int jt_76), (3, .int jt_50), (2, .int jt_37), (0, .ref o), (1, .int p0)] → W p l e (headSpec wsX9_mend ({ frames := 7, cells := 0, slots := 0, locals := 160 })).room s m ([.ref o, .int p0] : List Value).toArray below meth cM H locs 0 0 (MQ below (va_Qi (fun r (u : Int32) => r = u) (fun u t => ∃ (x3 : Int32) (x4 : Int32) (x5 : Int32) (x6 : Int32) (x9 : Int32) (x12 : Int32) (x13 : Int32) (x15 : Int32) (f0 : Nat → Int32) (f14 : Nat → Int32), (0 ≤ x3.toInt) ∧ (x3.toInt ≤ 1) ∧ (0 ≤ x6.toInt) ∧ (x6.toInt ≤ 1) ∧ (0 ≤ x9.toInt) ∧ (x9.toInt ≤ 400) ∧ (0 ≤ x12.toInt) ∧ (x12.toInt ≤ 8) ∧ (0 ≤ x15.toInt) ∧ (x15.toInt ≤ 128) ∧ va_P (dC, dI) vwCl (rw_W o c kc (rU (rU (rU (rU (rU (rU (rU (rU st 3 x3) 4 x4) 5 x5) 6 x6) 9 x9) 12 x12) 13 x13) 15 x15) lg (rU (rU ai 0 f0) 14 f14) al) t.heap) A) ([.ref o, .int p0] : List Value).toArray s 0 0 A) (F0 m 185 ls []) := by
                      intro n
                      induction n with
                      | zero => intro l8_185 l7_185 H locs ls if0_185 if1_185 if2_185 if3_185 hm; exact absurd hm (Nat.not_lt_zero _)
                      | succ n ih185 =>
                        intro l8_185 l7_185 H locs ls if0_185 if1_185 if2_185 if3_185 hm185 hP hS hl
                        refine lv_iload hx hb dX9_mend_185 (lv_at hl 0 rfl) ?_
                        refine lv_iload hx hb dX9_mend_187 (lv_at hl 3 rfl) ?_
                        refine lv_icmp_ge (tgt := 226) hx hb dX9_mend_189 (by decide) (fun c_3 => ?_) (fun c_3 => ?_)
                        · skip
                          have ic_3 := iv_le c_3
                          refine lv_aload_n hx hb dX9_mend_226 rfl (lv_at hl 6 rfl) ?_
                          refine lv_iload_n hx hb dX9_mend_227 rfl (lv_at hl 4 rfl) ?_
                          refine lv_iload hx hb dX9_mend_228 (lv_at hl 3 rfl) ?_
                          refine lv_iadd hx hb dX9_mend_230 ?_
                          refine lv_topi (fun v_4 ev_4 => ?_)
                          have rg1 := iv_rng jt_50
                          have rg2 := iv_rng jt_76
                          have hv_4 : v_4.toInt = jt_50.toInt + jt_76.toInt := by rw [ev_4]; exact (iv_add (by omega) (by omega)).trans (by omega)
                          clear ev_4
                          refine lv_bipush (v := 8) hx hb dX9_mend_231 (by decide) ?_
                          refine vp_callSl (va_Run.run (va_runV (As := [.int v_4, .int (8 : Int32)]) (rest := []) ⟨hx, hb, hml, hown, hts⟩ (v_X9_number l dC dI o c kc (rU st 13 jt_1) lg (rU ai 14 ja14_121) al v_4 (8 : Int32) (by omega) (by omega) (by omega) (by omega)) (cwV 2 hts gX9_mend_X9_number rfl rfl rfl (by decide +kernel) ⟨Nat.le_of_ble_eq_true rfl, Nat.le_of_ble_eq_true rfl⟩) ⟨fun a U g mk q => by obtain ⟨q0, qP, qK⟩ := q; exact ⟨q0, qP, va_K.moved (u := U) (U := U.calling g mk a) (Vm.Alike.refl U.vm) qK⟩, va_recv hK hP (ci := 11) (q := (RX9, TX9, 38)) rfl (q0 := 0) rfl, fun U hU hW => ⟨rfl, by rw [hU]; exact hP, va_K.moved hW.alike hK⟩⟩ rfl rfl hl.1 rfl (lv_room (Nat.le_of_ble_eq_true rfl)) dX9_mend_233 ⟨Nat.le_of_ble_eq_true rfl, Nat.le_of_ble_eq_true rfl⟩)) (fun r_5 er_5 => ?_)
                          have hn := er_5
                          have hn : r_5 = md_num (ai 0) v_4 (8 : Int32).toNatClampNeg := hn
                          refine lv_lstore (lv' := [(8, .long r_5), (7, .int l7_185), (5, .long r_2), (4, .int jt_76), (3, .int jt_50), (2, .int jt_37), (0, .ref o), (1, .int p0)]) hx hb dX9_mend_236 hl (by decide) rfl (fun ls hl => ?_)
                          have join238 : ∀ (H : Heap) (locs : List Loc) (ls : Array Slot), va_P (dC, dI) vwCl (rw_W o c kc (rU st 13 jt_1) lg (rU ai 14 ja14_121) al) H → va_S A s.heap H locs → lv_has ls 10 [(8, .long r_5), (7, .int l7_185), (5, .long r_2), (4, .int jt_76), (3, .int jt_50), (2, .int jt_37), (0, .ref o), (1, .int p0)] → W p l e (headSpec wsX9_mend ({ frames := 7, cells := 0, slots := 0, locals := 160 })).room s m ([.ref o, .int p0] : List Value).toArray below meth cM H locs 0 0 (MQ below (va_Qi (fun r (u : Int32) => r = u) (fun u t => ∃ (x3 : Int32) (x4 : Int32) (x5 : Int32) (x6 : Int32) (x9 : Int32) (x12 : Int32) (x13 : Int32) (x15 : Int32) (f0 : Nat → Int32) (f14 : Nat → Int32), (0 ≤ x3.toInt) ∧ (x3.toInt ≤ 1) ∧ (0 ≤ x6.toInt) ∧ (x6.toInt ≤ 1) ∧ (0 ≤ x9.toInt) ∧ (x9.toInt ≤ 400) ∧ (0 ≤ x12.toInt) ∧ (x12.toInt ≤ 8) ∧ (0 ≤ x15.toInt) ∧ (x15.toInt ≤ 128) ∧ va_P (dC, dI) vwCl (rw_W o c kc (rU (rU (rU (rU (rU (rU (rU (rU st 3 x3) 4 x4) 5 x5) 6 x6) 9 x9) 12 x12) 13 x13) 15 x15) lg (rU (rU ai 0 f0) 14 f14) al) t.heap) A) ([.ref o, .int p0] : List Value).toArray s 0 0 A) (F0 m 265 ls []) := by
                            intro H locs ls  hP hS hl
                            refine lv_aload_n hx hb dX9_mend_265 rfl (lv_at hl 6 rfl) ?_
                            refine lv_iload hx hb dX9_mend_266 (lv_at hl 3 rfl) ?_
                            refine lv_lload hx hb dX9_mend_268 (lv_at hl 2 rfl) ?_
                            refine lv_bipush (v := 8) hx hb dX9_mend_270 (by decide) ?_
                            have hFc := vfree (rw_D hD : va_D A (rw_W o c kc (rU st 13 jt_1) lg (rU ai 14 ja14_121) al)) hS hA
                            refine va_callv (va_runV (As := [.int jt_76, .long r_2, .int (8 : Int32)]) (rest := []) ⟨hx, hb, hml, hown, hts⟩ (v_X9_put l dC dI o c kc (rU st 13 jt_1) lg (rU ai 14 ja14_121) al jt_76 r_2 (8 : Int32) _ (by omega) (by omega) (by omega)) (cwV 3 hts gX9_mend_X9_put rfl rfl rfl (by decide +kernel) ⟨Nat.le_of_ble_eq_true rfl, Nat.le_of_ble_eq_true rfl⟩) ⟨fun a U g mk q => by obtain ⟨q0, q1, qP, qK, qD⟩ := q; exact ⟨q0, q1, qP, va_K.moved (u := U) (U := U.calling g mk a) (Vm.Alike.refl U.vm) qK, qD⟩, va_recv hK hP (ci := 11) (q := (RX9, TX9, 38)) rfl (q0 := 0) rfl, fun U hU hW => ⟨rfl, by rw [hU], by rw [hU]; exact hP, va_K.moved hW.alike hK, rw_D (hD.weaken (fun _ _ _ _ => trivial))⟩⟩ rfl rfl hl.1 rfl (lv_room (Nat.le_of_ble_eq_true rfl)) dX9_mend_272 ⟨Nat.le_of_ble_eq_true rfl, Nat.le_of_ble_eq_true rfl⟩) hS (fun q _ h => hFc q h) hFc (fun ur_6 t H1 locs ht hvm er_6 hB hz1 hk1 hS => ?_)
                            obtain ⟨f14_6, hP1⟩ := hB
                            rw [ht] at hP1
                            clear hFc hz1 hk1 hvm hP
                            subst ht
                            have hP := hP1
                            clear hP1
                            generalize t.heap = H at hP hS ⊢
                            have hP : va_P (dC, dI) vwCl (rw_W o c kc (rU st 13 jt_1) lg (rU ai 14 f14_6) al) H := hP
                            refine lv_aload_n hx hb dX9_mend_275 rfl (lv_at hl 6 rfl) ?_
                            refine va_get (D := (dC, dI)) (ci := 11) (v := .ref (c 14)) (C := RX9) (T := TX9) (N := 38) hx hb hts hin9 hown hK hP 0 rfl rfl 14 (by decide) (hts (.fieldLink RX9 24 "BlockLogModel" "fresh" "[I") (by decide +kernel)) (fun _ h9 => h9) rfl dX9_mend_276 ?_
                            refine lv_iload hx hb dX9_mend_279 (lv_at hl 3 rfl) ?_
                            refine lv_bipush (v := 8) hx hb dX9_mend_281 (by decide) ?_
                            refine lv_iadd hx hb dX9_mend_283 ?_
                            refine lv_topi (fun v_7 ev_7 => ?_)
                            have hv_7 : v_7.toInt = jt_76.toInt + 8 := by rw [ev_7]; exact (iv_add (by omega) (by omega)).trans (by omega)
                            clear ev_7
                            refine lv_sipush (v := 165) hx hb dX9_mend_284 (by decide) ?_
                            refine va_iast (f := f14_6) hx hb hK hP (rw_D hD) hS 5 4 rfl rfl (iv_in (i := v_7) (by omega) (by omega)) dX9_mend_287 (fun H locs hP _ hS => ?_)
                            have hP : va_P (dC, dI) vwCl (rw_W o c kc (rU st 13 jt_1) lg (rU ai 14 (upd f14_6 v_7.toNatClampNeg (165 : Int32))) al) H := hP
                            generalize hU_fresh : upd f14_6 v_7.toNatClampNeg (165 : Int32) = g_8 at hP
                            clear hU_fresh
                            refine lv_aload_n hx hb dX9_mend_288 rfl (lv_at hl 6 rfl) ?_
                            refine lv_iconst (v := 0) hx hb dX9_mend_289 (by decide) ?_
                            refine va_put (D := (dC, dI)) (ci := 11) (v := .int (0 : Int32)) (ty := .int) (C := RX9) (T := TX9) (N := 38) hx hb hts hin9 tyX9 tyX9_ok nmX9 hown hK hP (rw_D hD) hS 0 rfl rfl 9 (by decide) (hts (.fieldLink RX9 271 "BlockLogModel" "tapeSize" "I") (by decide +kernel)) (fun _ h9 => h9) rfl (by decide +kernel) rfl rfl (Nat.le_of_ble_eq_true rfl) dX9_mend_290 (fun H locs hP _ hS => ?_)
                            have hP : va_P (dC, dI) vwCl (rw_W o c kc (rU (rU st 9 (0 : Int32)) 13 jt_1) lg (rU ai 14 g_8) al) H := hP
                            refine lv_aload_n hx hb dX9_mend_293 rfl (lv_at hl 6 rfl) ?_
                            refine lv_iload_n hx hb dX9_mend_294 rfl (lv_at hl 4 rfl) ?_
                            refine lv_iload hx hb dX9_mend_295 (lv_at hl 3 rfl) ?_
                            refine lv_bipush (v := 9) hx hb dX9_mend_297 (by decide) ?_
                            refine lv_iadd hx hb dX9_mend_299 ?_
                            refine lv_topi (fun v_9 ev_9 => ?_)
                            have hv_9 : v_9.toInt = jt_76.toInt + 9 := by rw [ev_9]; exact (iv_add (by omega) (by omega)).trans (by omega)
                            clear ev_9
                            have hFc := vfree (rw_D hD : va_D A (rw_W o c kc (rU (rU st 9 (0 : Int32)) 13 jt_1) lg (rU ai 14 g_8) al)) hS hA
                            refine va_callv (va_runV (As := [.int jt_50, .int v_9]) (rest := []) ⟨hx, hb, hml, hown, hts⟩ (v_X9_writeFresh l dC dI o c kc (rU (rU st 9 (0 : Int32)) 13 jt_1) lg (rU ai 14 g_8) al jt_50 v_9 _ (show 0 ≤ (st 3).toInt by omega) (show (st 3).toInt ≤ 1 by omega) (show 0 ≤ (st 6).toInt by omega) (show (st 6).toInt ≤ 1 by omega) (show 0 ≤ (st 12).toInt by omega) (show (st 12).toInt ≤ 8 by omega) (by omega) (by omega) (by omega) (by omega)) (cwV 2 hts gX9_mend_X9_writeFresh rfl rfl rfl (by decide +kernel) ⟨Nat.le_of_ble_eq_true rfl, Nat.le_of_ble_eq_true rfl⟩) ⟨fun a U g mk q => by obtain ⟨q0, q1, qP, qK, qD⟩ := q; exact ⟨q0, q1, qP, va_K.moved (u := U) (U := U.calling g mk a) (Vm.Alike.refl U.vm) qK, qD⟩, va_recv hK hP (ci := 11) (q := (RX9, TX9, 38)) rfl (q0 := 0) rfl, fun U hU hW => ⟨rfl, by rw [hU], by rw [hU]; exact hP, va_K.moved hW.alike hK, rw_D (hD.weaken (fun _ _ _ _ => trivial))⟩⟩ rfl rfl hl.1 rfl (lv_room (Nat.le_of_ble_eq_true rfl)) dX9_mend_300 ⟨Nat.le_of_ble_eq_true rfl, Nat.le_of_ble_eq_true rfl⟩) hS (fun q _ h => hFc q h) hFc (fun ur_10 t H1 locs ht hvm er_10 hB hz1 hk1 hS => ?_)
                            obtain ⟨x3_10, x4_10, x5_10, x6_10, x12_10, f0_10, k_11, k_12, k_13, k_14, k_15, k_16, hP1⟩ := hB
                            rw [ht] at hP1
                            clear hFc hz1 hk1 hvm hP
                            subst ht
                            have hP := hP1
                            clear hP1
                            generalize t.heap = H at hP hS ⊢
                            have hP : va_P (dC, dI) vwCl (rw_W o c kc (rU (rU (rU (rU (rU (rU (rU st 3 x3_10) 4 x4_10) 5 x5_10) 6 x6_10) 9 (0 : Int32)) 12 x12_10) 13 jt_1) lg (rU (rU ai 0 f0_10) 14 g_8) al) H := hP
                            have k_11 : 0 ≤ x3_10.toInt := k_11
                            have k_12 : x3_10.toInt ≤ 1 := k_12
                            have k_13 : 0 ≤ x6_10.toInt := k_13
                            have k_14 : x6_10.toInt ≤ 1 := k_14
                            have k_15 : 0 ≤ x12_10.toInt := k_15
                            have k_16 : x12_10.toInt ≤ 8 := k_16
                            have join303 : ∀ (js3_303 : Int32) (js4_303 : Int32) (js5_303 : Int32) (js6_303 : Int32) (js12_303 : Int32) (js15_303 : Int32) (ja0_303 : Nat → Int32) (H : Heap) (locs : List Loc) (ls : Array Slot), (0 ≤ js3_303.toInt) → (js3_303.toInt ≤ 1) → (0 ≤ js6_303.toInt) → (js6_303.toInt ≤ 1) → (0 ≤ js12_303.toInt) → (js12_303.toInt ≤ 8) → (0 ≤ js15_303.toInt) → (js15_303.toInt ≤ 128) → va_P (dC, dI) vwCl (rw_W o c kc (rU (rU (rU (rU (rU (rU (rU (rU st 3 js3_303) 4 js4_303) 5 js5_303) 6 js6_303) 9 (0 : Int32)) 12 js12_303) 13 jt_1) 15 js15_303) lg (rU (rU ai 0 ja0_303) 14 g_8) al) H → va_S A s.heap H locs → lv_has ls 10 [(8, .long r_5), (7, .int l7_185), (5, .long r_2), (4, .int jt_76), (3, .int jt_50), (2, .int jt_37), (0, .ref o), (1, .int p0)] → W p l e (headSpec wsX9_mend ({ frames := 7, cells := 0, slots := 0, locals := 160 })).room s m ([.ref o, .int p0] : List Value).toArray below meth cM H locs 0 0 (MQ below (va_Qi (fun r (u : Int32) => r = u) (fun u t => ∃ (x3 : Int32) (x4 : Int32) (x5 : Int32) (x6 : Int32) (x9 : Int32) (x12 : Int32) (x13 : Int32) (x15 : Int32) (f0 : Nat → Int32) (f14 : Nat → Int32), (0 ≤ x3.toInt) ∧ (x3.toInt ≤ 1) ∧ (0 ≤ x6.toInt) ∧ (x6.toInt ≤ 1) ∧ (0 ≤ x9.toInt) ∧ (x9.toInt ≤ 400) ∧ (0 ≤ x12.toInt) ∧ (x12.toInt ≤ 8) ∧ (0 ≤ x15.toInt) ∧ (x15.toInt ≤ 128) ∧ va_P (dC, dI) vwCl (rw_W o c kc (rU (rU (rU (rU (rU (rU (rU (rU st 3 x3) 4 x4) 5 x5) 6 x6) 9 x9) 12 x12) 13 x13) 15 x15) lg (rU (rU ai 0 f0) 14 f14) al) t.heap) A) ([.ref o, .int p0] : List Value).toArray s 0 0 A) (F0 m 311 ls []) := by
                              intro js3_303 js4_303 js5_303 js6_303 js12_303 js15_303 ja0_303 H locs ls ij0_303 ij1_303 ij2_303 ij3_303 ij4_303 ij5_303 ij6_303 ij7_303 hP hS hl
                              refine lv_aload_n hx hb dX9_mend_311 rfl (lv_at hl 6 rfl) ?_
                              refine va_get (D := (dC, dI)) (ci := 11) (v := .int js6_303) (C := RX9) (T := TX9) (N := 38) hx hb hts hin9 hown hK hP 0 rfl rfl 6 (by decide) (hts (.fieldLink RX9 108 "BlockLogModel" "dark" "Z") (by decide +kernel)) (fun _ h9 => h9) rfl dX9_mend_312 ?_
                              refine lv_if_eq (tgt := 323) hx hb dX9_mend_315 (by decide) (fun c_17 => ?_) (fun c_17 => ?_)
                              · skip
                                have ic_17 := iv_eq c_17
                                refine lv_aload_n hx hb dX9_mend_323 rfl (lv_at hl 6 rfl) ?_
                                refine vp_callSi (va_Run.run (va_runV (As := []) (rest := []) ⟨hx, hb, hml, hown, hts⟩ (v_X9_badRows l dC dI o c kc (rU (rU (rU (rU (rU (rU (rU (rU st 3 js3_303) 4 js4_303) 5 js5_303) 6 js6_303) 9 (0 : Int32)) 12 js12_303) 13 jt_1) 15 js15_303) lg (rU (rU ai 0 ja0_303) 14 g_8) al  (show 0 ≤ (st 7).toInt by omega) (show (st 7).toInt ≤ 1 by omega) (show 0 ≤ js15_303.toInt by omega) (show js15_303.toInt ≤ 128 by omega)) (cwV 0 hts gX9_mend_X9_badRows rfl rfl rfl (by decide +kernel) ⟨Nat.le_of_ble_eq_true rfl, Nat.le_of_ble_eq_true rfl⟩) ⟨fun a U g mk q => by obtain ⟨q0, qP, qK⟩ := q; exact ⟨q0, qP, va_K.moved (u := U) (U := U.calling g mk a) (Vm.Alike.refl U.vm) qK⟩, va_recv hK hP (ci := 11) (q := (RX9, TX9, 38)) rfl (q0 := 0) rfl, fun U hU hW => ⟨rfl, by rw [hU]; exact hP, va_K.moved hW.alike hK⟩⟩ rfl rfl hl.1 rfl (lv_room (Nat.le_of_ble_eq_true rfl)) dX9_mend_324 ⟨Nat.le_of_ble_eq_true rfl, Nat.le_of_ble_eq_true rfl⟩)) (fun r_18 er_18 => ?_)
                                obtain ⟨k_19, k_20⟩ := er_18
                                refine lv_aload_n hx hb dX9_mend_327 rfl (lv_at hl 6 rfl) ?_
                                refine vp_callSi (va_Run.run (va_runV (As := []) (rest := [.int r_18]) ⟨hx, hb, hml, hown, hts⟩ (v_X9_badPages l dC dI o c kc (rU (rU (rU (rU (rU (rU (rU (rU st 3 js3_303) 4 js4_303) 5 js5_303) 6 js6_303) 9 (0 : Int32)) 12 js12_303) 13 jt_1) 15 js15_303) lg (rU (rU ai 0 ja0_303) 14 g_8) al  (show 1 ≤ (st 1).toInt by omega) (show (st 1).toInt ≤ 65536 by omega)) (cwV 0 hts gX9_mend_X9_badPages rfl rfl rfl (by decide +kernel) ⟨Nat.le_of_ble_eq_true rfl, Nat.le_of_ble_eq_true rfl⟩) ⟨fun a U g mk q => by obtain ⟨q0, qP, qK⟩ := q; exact ⟨q0, qP, va_K.moved (u := U) (U := U.calling g mk a) (Vm.Alike.refl U.vm) qK⟩, va_recv hK hP (ci := 11) (q := (RX9, TX9, 38)) rfl (q0 := 0) rfl, fun U hU hW => ⟨rfl, by rw [hU]; exact hP, va_K.moved hW.alike hK⟩⟩ rfl rfl hl.1 rfl (lv_room (Nat.le_of_ble_eq_true rfl)) dX9_mend_328 ⟨Nat.le_of_ble_eq_true rfl, Nat.le_of_ble_eq_true rfl⟩)) (fun r_21 er_21 => ?_)
                                obtain ⟨k_22, k_23⟩ := er_21
                                have k_23 : r_21.toInt ≤ (st 1).toInt := k_23
                                refine lv_iadd hx hb dX9_mend_331 ?_
                                refine lv_topi (fun v_24 ev_24 => ?_)
                                have rg3 := iv_rng r_18
                                have rg4 := iv_rng r_21
                                have hv_24 : v_24.toInt = r_18.toInt + r_21.toInt := by rw [ev_24]; exact (iv_add (by omega) (by omega)).trans (by omega)
                                clear ev_24
                                exact W.iret hx hb hr (fun t ht hW => ⟨⟨_, _, rfl, rfl, js3_303, js4_303, js5_303, js6_303, (0 : Int32), js12_303, jt_1, js15_303, ja0_303, g_8, (by omega), (by omega), (by omega), (by omega), (by omega), (by omega), (by omega), (by omega), (by omega), (by omega), by rw [ht]; exact hP⟩, hS.F ht⟩) hS.2.2 dX9_mend_332
                              · skip
                                have ic_17 := iv_ne c_17
                                refine lv_bipush (v := (-4)) hx hb dX9_mend_318 (by decide) ?_
                                refine lv_goto (tgt := 332) hx hb dX9_mend_320 (by decide) ?_
                                exact W.iret hx hb hr (fun t ht hW => ⟨⟨_, _, rfl, rfl, js3_303, js4_303, js5_303, js6_303, (0 : Int32), js12_303, jt_1, js15_303, ja0_303, g_8, (by omega), (by omega), (by omega), (by omega), (by omega), (by omega), (by omega), (by omega), (by omega), (by omega), by rw [ht]; exact hP⟩, hS.F ht⟩) hS.2.2 dX9_mend_332
                            refine lv_iload_n hx hb dX9_mend_303 rfl (lv_at hl 5 rfl) ?_
                            refine lv_if_eq (tgt := 311) hx hb dX9_mend_304 (by decide) (fun c_25 => ?_) (fun c_25 => ?_)
                            · skip
                              have ic_25 := iv_eq c_25
                              exact join303 x3_10 x4_10 x5_10 x6_10 x12_10 (st 15) f0_10 _ _ _ (by omega) (by omega) (by omega) (by omega) (by omega) (by omega) (by omega) (by omega) hP hS (lv_sub hl [0, 1, 2, 3, 4, 5, 6, 7] rfl)
                            · skip
                              have ic_25 := iv_ne c_25
                              refine lv_aload_n hx hb dX9_mend_307 rfl (lv_at hl 6 rfl) ?_
                              have hFc := vfree (rw_D hD : va_D A (rw_W o c kc (rU (rU (rU (rU (rU (rU (rU st 3 x3_10) 4 x4_10) 5 x5_10) 6 x6_10) 9 (0 : Int32)) 12 x12_10) 13 jt_1) lg (rU (rU ai 0 f0_10) 14 g_8) al)) hS hA
                              refine va_callv (va_runV (As := []) (rest := []) ⟨hx, hb, hml, hown, hts⟩ (v_X9_lackingGroup l dC dI o c kc (rU (rU (rU (rU (rU (rU (rU st 3 x3_10) 4 x4_10) 5 x5_10) 6 x6_10) 9 (0 : Int32)) 12 x12_10) 13 jt_1) lg (rU (rU ai 0 f0_10) 14 g_8) al  _ (show 0 ≤ x3_10.toInt by omega) (show x3_10.toInt ≤ 1 by omega) (show 0 ≤ x6_10.toInt by omega) (show x6_10.toInt ≤ 1 by omega) (show 0 ≤ (st 7).toInt by omega) (show (st 7).toInt ≤ 1 by omega) (show 0 ≤ x12_10.toInt by omega) (show x12_10.toInt ≤ 8 by omega) (show 0 ≤ (st 15).toInt by omega) (show (st 15).toInt ≤ 128 by omega)) (cwV 0 hts gX9_mend_X9_lackingGroup rfl rfl rfl (by decide +kernel) ⟨Nat.le_of_ble_eq_true rfl, Nat.le_of_ble_eq_true rfl⟩) ⟨fun a U g mk q => by obtain ⟨q0, q1, qP, qK, qD⟩ := q; exact ⟨q0, q1, qP, va_K.moved (u := U) (U := U.calling g mk a) (Vm.Alike.refl U.vm) qK, qD⟩, va_recv hK hP (ci := 11) (q := (RX9, TX9, 38)) rfl (q0 := 0) rfl, fun U hU hW => ⟨rfl, by rw [hU], by rw [hU]; exact hP, va_K.moved hW.alike hK, rw_D (hD.weaken (fun _ _ _ _ => trivial))⟩⟩ rfl rfl hl.1 rfl (lv_room (Nat.le_of_ble_eq_true rfl)) dX9_mend_308 ⟨Nat.le_of_ble_eq_true rfl, Nat.le_of_ble_eq_true rfl⟩) hS (fun q _ h => hFc q h) hFc (fun ur_26 t H1 locs ht hvm er_26 hB hz1 hk1 hS => ?_)
                              obtain ⟨x3_26, x4_26, x5_26, x6_26, x12_26, x15_26, f0_26, k_27, k_28, k_29, k_30, k_31, k_32, k_33, k_34, hP1⟩ := hB
                              rw [ht] at hP1
                              clear hFc hz1 hk1 hvm hP
                              subst ht
                              have hP := hP1
                              clear hP1
                              generalize t.heap = H at hP hS ⊢
                              have hP : va_P (dC, dI) vwCl (rw_W o c kc (rU (rU (rU (rU (rU (rU (rU (rU st 3 x3_26) 4 x4_26) 5 x5_26) 6 x6_26) 9 (0 : Int32)) 12 x12_26) 13 jt_1) 15 x15_26) lg (rU (rU ai 0 f0_26) 14 g_8) al) H := hP
                              have k_27 : 0 ≤ x3_26.toInt := k_27
                              have k_28 : x3_26.toInt ≤ 1 := k_28
                              have k_29 : 0 ≤ x6_26.toInt := k_29
                              have k_30 : x6_26.toInt ≤ 1 := k_30
                              have k_31 : 0 ≤ x12_26.toInt := k_31
                              have k_32 : x12_26.toInt ≤ 8 := k_32
                              have k_33 : 0 ≤ x15_26.toInt := k_33
                              have k_34 : x15_26.toInt ≤ 128 := k_34
                              exact join303 x3_26 x4_26 x5_26 x6_26 x12_26 x15_26 f0_26 _ _ _ (by omega) (by omega) (by omega) (by omega) (by omega) (by omega) (by omega) (by omega) hP hS (lv_sub hl [0, 1, 2, 3, 4, 5, 6, 7] rfl)
                          refine lv_lload hx hb dX9_mend_238 (lv_at hl 2 rfl) ?_
                          refine lv_lload hx hb dX9_mend_240 (lv_at hl 0 rfl) ?_
                          refine W.lcmp hx hb dX9_mend_242 ?_
                          refine lv_topi (fun v_35 ev_35 => ?_)
                          clear ev_35
                          refine lv_if_eq (tgt := 265) hx hb dX9_mend_243 (by decide) (fun c_36 => ?_) (fun c_36 => ?_)
                          · skip
                            have ic_36 := iv_eq c_36
                            exact join238 _ _ _ hP hS (lv_sub hl [0, 1, 2, 3, 4, 5, 6, 7] rfl)
                          · skip
                            have ic_36 := iv_ne c_36
                            refine lv_iload hx hb dX9_mend_246 (lv_at hl 1 rfl) ?_
                            refine lv_if_eq (tgt := 262) hx hb dX9_mend_248 (by decide) (fun c_37 => ?_) (fun c_37 => ?_)
                            · skip
                              have ic_37 := iv_eq c_37
                              refine lv_bipush (v := (-10)) hx hb dX9_mend_262 (by decide) ?_
                              exact W.iret hx hb hr (fun t ht hW => ⟨⟨_, _, rfl, rfl, st 3, st 4, st 5, st 6, st 9, st 12, jt_1, st 15, ai 0, ja14_121, (by omega), (by omega), (by omega), (by omega), (by omega), (by omega), (by omega), (by omega), (by omega), (by omega), by rw [ht]; exact hP⟩, hS.F ht⟩) hS.2.2 dX9_mend_264
                            · skip
                              have ic_37 := iv_ne c_37
                              refine lv_lload hx hb dX9_mend_251 (lv_at hl 2 rfl) ?_
                              refine lv_lload hx hb dX9_mend_253 (lv_at hl 0 rfl) ?_
                              refine vp_callSi (va_Run.run (va_runS (As := [.long r_2, .long r_5]) (rest := []) ⟨hx, hb, hml, hown, hts⟩ (v_X9_differing l dC dI r_2 r_5 ) (va_cwS 2 hts gX9_mend_X9_differing rfl rfl rfl (by decide +kernel) ⟨Nat.le_of_ble_eq_true rfl, Nat.le_of_ble_eq_true rfl⟩) ⟨fun a U g mk q => q, fun U hU hW => ⟨rfl, trivial⟩⟩ rfl rfl hl.1 rfl (lv_room (Nat.le_of_ble_eq_true rfl)) dX9_mend_255 ⟨Nat.le_of_ble_eq_true rfl, Nat.le_of_ble_eq_true rfl⟩)) (fun r_38 er_38 => ?_)
                              refine lv_iconst (v := 1) hx hb dX9_mend_258 (by decide) ?_
                              refine lv_icmp_eq (tgt := 265) hx hb dX9_mend_259 (by decide) (fun c_39 => ?_) (fun c_39 => ?_)
                              · skip
                                have ic_39 := iv_eq c_39
                                exact join238 _ _ _ hP hS (lv_sub hl [0, 1, 2, 3, 4, 5, 6, 7] rfl)
                              · skip
                                have ic_39 := iv_ne c_39
                                refine lv_bipush (v := (-10)) hx hb dX9_mend_262 (by decide) ?_
                                exact W.iret hx hb hr (fun t ht hW => ⟨⟨_, _, rfl, rfl, st 3, st 4, st 5, st 6, st 9, st 12, jt_1, st 15, ai 0, ja14_121, (by omega), (by omega), (by omega), (by omega), (by omega), (by omega), (by omega), (by omega), (by omega), (by omega), by rw [ht]; exact hP⟩, hS.F ht⟩) hS.2.2 dX9_mend_264
                        · skip
                          have ic_3 := iv_nle c_3
                          refine lv_iload hx hb dX9_mend_192 (lv_at hl 1 rfl) ?_
                          have join194 : ∀ (jt_194 : Int32) (H : Heap) (locs : List Loc) (ls : Array Slot), (0 ≤ jt_194.toInt) → (jt_194.toInt ≤ 1) → va_P (dC, dI) vwCl (rw_W o c kc (rU st 13 jt_1) lg (rU ai 14 ja14_121) al) H → va_S A s.heap H locs → lv_has ls 10 [(8, .int l8_185), (7, .int l7_185), (5, .long r_2), (4, .int jt_76), (3, .int jt_50), (2, .int jt_37), (0, .ref o), (1, .int p0)] → W p l e (headSpec wsX9_mend ({ frames := 7, cells := 0, slots := 0, locals := 160 })).room s m ([.ref o, .int p0] : List Value).toArray below meth cM H locs 0 0 (MQ below (va_Qi (fun r (u : Int32) => r = u) (fun u t => ∃ (x3 : Int32) (x4 : Int32) (x5 : Int32) (x6 : Int32) (x9 : Int32) (x12 : Int32) (x13 : Int32) (x15 : Int32) (f0 : Nat → Int32) (f14 : Nat → Int32), (0 ≤ x3.toInt) ∧ (x3.toInt ≤ 1) ∧ (0 ≤ x6.toInt) ∧ (x6.toInt ≤ 1) ∧ (0 ≤ x9.toInt) ∧ (x9.toInt ≤ 400) ∧ (0 ≤ x12.toInt) ∧ (x12.toInt ≤ 8) ∧ (0 ≤ x15.toInt) ∧ (x15.toInt ≤ 128) ∧ va_P (dC, dI) vwCl (rw_W o c kc (rU (rU (rU (rU (rU (rU (rU (rU st 3 x3) 4 x4) 5 x5) 6 x6) 9 x9) 12 x12) 13 x13) 15 x15) lg (rU (rU ai 0 f0) 14 f14) al) t.heap) A) ([.ref o, .int p0] : List Value).toArray s 0 0 A) (F0 m 217 ls [.int jt_194, .int l7_185]) := by
                            intro jt_194 H locs ls ij0_194 ij1_194 hP hS hl
                            refine lv_iand hx hb dX9_mend_217 ?_
                            refine lv_topi (fun v_40 ev_40 => ?_)
                            have hv_40 : 0 ≤ v_40.toInt ∧ v_40.toInt ≤ 1 := by rw [ev_40]; exact iv_and01 (by omega) (by omega) (by omega) (by omega)
                            clear ev_40
                            refine lv_istore (lv' := [(7, .int v_40), (8, .int l8_185), (5, .long r_2), (4, .int jt_76), (3, .int jt_50), (2, .int jt_37), (0, .ref o), (1, .int p0)]) hx hb dX9_mend_218 hl (by decide) rfl (fun ls hl => ?_)
                            obtain ⟨x_41, ex_41⟩ : ∃ z : Int32, z = l8_185 + (1) := ⟨_, rfl⟩
                            refine lv_iinc (v := x_41) (lv' := [(8, .int x_41), (7, .int v_40), (5, .long r_2), (4, .int jt_76), (3, .int jt_50), (2, .int jt_37), (0, .ref o), (1, .int p0)]) hx hb dX9_mend_220 hl (k := 1) rfl (by rw [ex_41]; rfl) (by decide) rfl (fun ls hl => ?_)
                            have rg5 := iv_rng l8_185
                            have hx_41 : x_41.toInt = l8_185.toInt + (1) := by rw [ex_41]; exact (iv_add (by omega) (by omega)).trans (by omega)
                            clear ex_41
                            refine lv_goto (tgt := 185) hx hb dX9_mend_223 (by decide) ?_
                            exact ih185 x_41 v_40 _ _ _ (by omega) (by omega) (by omega) (by omega) (by omega) hP hS (lv_sub hl [0, 1, 2, 3, 4, 5, 6, 7] rfl)
                          refine lv_aload_n hx hb dX9_mend_194 rfl (lv_at hl 6 rfl) ?_
                          refine va_get (D := (dC, dI)) (ci := 11) (v := .ref (c 14)) (C := RX9) (T := TX9) (N := 38) hx hb hts hin9 hown hK hP 0 rfl rfl 14 (by decide) (hts (.fieldLink RX9 24 "BlockLogModel" "fresh" "[I") (by decide +kernel)) (fun _ h9 => h9) rfl dX9_mend_195 ?_
                          refine lv_iload hx hb dX9_mend_198 (lv_at hl 0 rfl) ?_
                          refine va_iald (f := ja14_121) hx hb hK hP 5 4 rfl rfl (iv_in (i := l8_185) (by omega) (by omega)) dX9_mend_200 ?_
                          refine lv_topi (fun v_42 ev_42 => ?_)
                          clear ev_42
                          refine lv_aload_n hx hb dX9_mend_201 rfl (lv_at hl 6 rfl) ?_
                          refine lv_iload_n hx hb dX9_mend_202 rfl (lv_at hl 4 rfl) ?_
                          refine lv_iload hx hb dX9_mend_203 (lv_at hl 0 rfl) ?_
                          refine lv_iadd hx hb dX9_mend_205 ?_
                          refine lv_topi (fun v_43 ev_43 => ?_)
                          have rg6 := iv_rng jt_50
                          have rg7 := iv_rng l8_185
                          have hv_43 : v_43.toInt = jt_50.toInt + l8_185.toInt := by rw [ev_43]; exact (iv_add (by omega) (by omega)).trans (by omega)
                          clear ev_43
                          refine vp_callSi (va_Run.run (va_runV (As := [.int v_43]) (rest := [.int v_42, .int l7_185]) ⟨hx, hb, hml, hown, hts⟩ (v_X9_byteIn l dC dI o c kc (rU st 13 jt_1) lg (rU ai 14 ja14_121) al v_43 (by omega) (by omega)) (cwV 1 hts gX9_mend_X9_byteIn rfl rfl rfl (by decide +kernel) ⟨Nat.le_of_ble_eq_true rfl, Nat.le_of_ble_eq_true rfl⟩) ⟨fun a U g mk q => by obtain ⟨q0, qP, qK⟩ := q; exact ⟨q0, qP, va_K.moved (u := U) (U := U.calling g mk a) (Vm.Alike.refl U.vm) qK⟩, va_recv hK hP (ci := 11) (q := (RX9, TX9, 38)) rfl (q0 := 0) rfl, fun U hU hW => ⟨rfl, by rw [hU]; exact hP, va_K.moved hW.alike hK⟩⟩ rfl rfl hl.1 rfl (lv_room (Nat.le_of_ble_eq_true rfl)) dX9_mend_206 ⟨Nat.le_of_ble_eq_true rfl, Nat.le_of_ble_eq_true rfl⟩)) (fun r_44 er_44 => ?_)
                          obtain ⟨k_45, k_46, k_47⟩ := er_44
                          have k_45 : r_44.toInt = (md_get (ai 0) v_43).toInt := k_45
                          refine lv_icmp_ne (tgt := 216) hx hb dX9_mend_209 (by decide) (fun c_48 => ?_) (fun c_48 => ?_)
                          · skip
                            have ic_48 := iv_ne c_48
                            refine lv_iconst (v := 0) hx hb dX9_mend_216 (by decide) ?_
                            exact join194 (0 : Int32) _ _ _ (by omega) (by omega) hP hS (lv_sub hl [0, 1, 2, 3, 4, 5, 6, 7] rfl)
                          · skip
                            have ic_48 := iv_eq c_48
                            refine lv_iconst (v := 1) hx hb dX9_mend_212 (by decide) ?_
                            refine lv_goto (tgt := 217) hx hb dX9_mend_213 (by decide) ?_
                            exact join194 (1 : Int32) _ _ _ (by omega) (by omega) hP hS (lv_sub hl [0, 1, 2, 3, 4, 5, 6, 7] rfl)
                    exact loop185 ((jt_76.toInt - 0 : Int).toNat + 1) (0 : Int32) (1 : Int32) _ _ _ (by omega) (by omega) (by omega) (by omega) (by omega) hP hS (lv_sub hl [0, 1, 2, 3, 4, 5, 6, 7] rfl)
                  refine lv_iload_n hx hb dX9_mend_163 rfl (lv_at hl 2 rfl) ?_
                  refine lv_if_eq (tgt := 171) hx hb dX9_mend_164 (by decide) (fun c_49 => ?_) (fun c_49 => ?_)
                  · skip
                    have ic_49 := iv_eq c_49
                    refine lv_iconst (v := 3) hx hb dX9_mend_171 (by decide) ?_
                    exact join163 (3 : Int32) _ _ _ (by omega) (by omega) hP hS (lv_sub hl [0, 1, 2, 3, 4] rfl)
                  · skip
                    have ic_49 := iv_ne c_49
                    refine lv_iconst (v := 2) hx hb dX9_mend_167 (by decide) ?_
                    refine lv_goto (tgt := 172) hx hb dX9_mend_168 (by decide) ?_
                    exact join163 (2 : Int32) _ _ _ (by omega) (by omega) hP hS (lv_sub hl [0, 1, 2, 3, 4] rfl)
                refine lv_iload_n hx hb dX9_mend_121 rfl (lv_at hl 2 rfl) ?_
                refine lv_if_eq (tgt := 158) hx hb dX9_mend_122 (by decide) (fun c_50 => ?_) (fun c_50 => ?_)
                · skip
                  have ic_50 := iv_eq c_50
                  refine lv_aload_n hx hb dX9_mend_158 rfl (lv_at hl 3 rfl) ?_
                  have hFc := vfree (rw_D hD : va_D A (rw_W o c kc (rU st 13 jt_1) lg ai al)) hS hA
                  refine va_callv (va_runV (As := []) (rest := []) ⟨hx, hb, hml, hown, hts⟩ (v_X9_layLeaf l dC dI o c kc (rU st 13 jt_1) lg ai al  _ (show 0 ≤ (st 9).toInt by omega) (show (st 9).toInt ≤ 400 by omega) (show aR (ai 8) 400 (0) 255 from hR8)) (cwV 0 hts gX9_mend_X9_layLeaf rfl rfl rfl (by decide +kernel) ⟨Nat.le_of_ble_eq_true rfl, Nat.le_of_ble_eq_true rfl⟩) ⟨fun a U g mk q => by obtain ⟨q0, q1, qP, qK, qD⟩ := q; exact ⟨q0, q1, qP, va_K.moved (u := U) (U := U.calling g mk a) (Vm.Alike.refl U.vm) qK, qD⟩, va_recv hK hP (ci := 11) (q := (RX9, TX9, 38)) rfl (q0 := 0) rfl, fun U hU hW => ⟨rfl, by rw [hU], by rw [hU]; exact hP, va_K.moved hW.alike hK, rw_D (hD.weaken (fun _ _ _ _ => trivial))⟩⟩ rfl rfl hl.1 rfl (lv_room (Nat.le_of_ble_eq_true rfl)) dX9_mend_159 ⟨Nat.le_of_ble_eq_true rfl, Nat.le_of_ble_eq_true rfl⟩) hS (fun q _ h => hFc q h) hFc (fun ur_51 t H1 locs ht hvm er_51 hB hz1 hk1 hS => ?_)
                  obtain ⟨f14_51, hP1⟩ := hB
                  rw [ht] at hP1
                  clear hFc hz1 hk1 hvm hP
                  subst ht
                  have hP := hP1
                  clear hP1
                  generalize t.heap = H at hP hS ⊢
                  have hP : va_P (dC, dI) vwCl (rw_W o c kc (rU st 13 jt_1) lg (rU ai 14 f14_51) al) H := hP
                  exact join121 f14_51 _ _ _ hP hS (lv_sub hl [0, 1, 2, 3, 4] rfl)
                · skip
                  have ic_50 := iv_ne c_50
                  refine lv_iconst (v := 0) hx hb dX9_mend_125 (by decide) ?_
                  refine lv_istore (lv' := [(5, .int (0 : Int32)), (4, .int jt_76), (3, .int jt_50), (2, .int jt_37), (0, .ref o), (1, .int p0)]) hx hb dX9_mend_126 hl (by decide) rfl (fun ls hl => ?_)
                  have loop128 : ∀ (n : Nat) (l5_128 : Int32) (a14_128 : Nat → Int32) (H : Heap) (locs : List Loc) (ls : Array Slot), (0 ≤ l5_128.toInt) → (l5_128.toInt ≤ 23) → (23 - l5_128.toInt : Int).toNat < n → va_P (dC, dI) vwCl (rw_W o c kc (rU st 13 jt_1) lg (rU ai 14 a14_128) al) H → va_S A s.heap H locs → lv_has ls 10 [(5, .int l5_128), (4, .int jt_76), (3, .int jt_50), (2, .int jt_37), (0, .ref o), (1, .int p0)] → W p l e (headSpec wsX9_mend ({ frames := 7, cells := 0, slots := 0, locals := 160 })).room s m ([.ref o, .int p0] : List Value).toArray below meth cM H locs 0 0 (MQ below (va_Qi (fun r (u : Int32) => r = u) (fun u t => ∃ (x3 : Int32) (x4 : Int32) (x5 : Int32) (x6 : Int32) (x9 : Int32) (x12 : Int32) (x13 : Int32) (x15 : Int32) (f0 : Nat → Int32) (f14 : Nat → Int32), (0 ≤ x3.toInt) ∧ (x3.toInt ≤ 1) ∧ (0 ≤ x6.toInt) ∧ (x6.toInt ≤ 1) ∧ (0 ≤ x9.toInt) ∧ (x9.toInt ≤ 400) ∧ (0 ≤ x12.toInt) ∧ (x12.toInt ≤ 8) ∧ (0 ≤ x15.toInt) ∧ (x15.toInt ≤ 128) ∧ va_P (dC, dI) vwCl (rw_W o c kc (rU (rU (rU (rU (rU (rU (rU (rU st 3 x3) 4 x4) 5 x5) 6 x6) 9 x9) 12 x12) 13 x13) 15 x15) lg (rU (rU ai 0 f0) 14 f14) al) t.heap) A) ([.ref o, .int p0] : List Value).toArray s 0 0 A) (F0 m 128 ls []) := by
                    intro n
                    induction n with
                    | zero => intro l5_128 a14_128 H locs ls if0_128 if1_128 hm; exact absurd hm (Nat.not_lt_zero _)
                    | succ n ih128 =>
                      intro l5_128 a14_128 H locs ls if0_128 if1_128 hm128 hP hS hl
                      refine lv_iload hx hb dX9_mend_128 (lv_at hl 0 rfl) ?_
                      refine lv_bipush (v := 23) hx hb dX9_mend_130 (by decide) ?_
                      refine lv_icmp_ge (tgt := 155) hx hb dX9_mend_132 (by decide) (fun c_52 => ?_) (fun c_52 => ?_)
                      · skip
                        have ic_52 := iv_le c_52
                        refine lv_goto (tgt := 162) hx hb dX9_mend_155 (by decide) ?_
                        exact join121 a14_128 _ _ _ hP hS (lv_sub hl [1, 2, 3, 4, 5] rfl)
                      · skip
                        have ic_52 := iv_nle c_52
                        refine lv_aload_n hx hb dX9_mend_135 rfl (lv_at hl 4 rfl) ?_
                        refine va_get (D := (dC, dI)) (ci := 11) (v := .ref (c 14)) (C := RX9) (T := TX9) (N := 38) hx hb hts hin9 hown hK hP 0 rfl rfl 14 (by decide) (hts (.fieldLink RX9 24 "BlockLogModel" "fresh" "[I") (by decide +kernel)) (fun _ h9 => h9) rfl dX9_mend_136 ?_
                        refine lv_iload hx hb dX9_mend_139 (lv_at hl 0 rfl) ?_
                        refine lv_aload_n hx hb dX9_mend_141 rfl (lv_at hl 4 rfl) ?_
                        refine va_get (D := (dC, dI)) (ci := 11) (v := .ref (c 8)) (C := RX9) (T := TX9) (N := 38) hx hb hts hin9 hown hK hP 0 rfl rfl 8 (by decide) (hts (.fieldLink RX9 14 "BlockLogModel" "tape" "[I") (by decide +kernel)) (fun _ h9 => h9) rfl dX9_mend_142 ?_
                        refine lv_iload hx hb dX9_mend_145 (lv_at hl 0 rfl) ?_
                        refine va_iald (f := ai 8) hx hb hK hP 2 1 rfl rfl (iv_in (i := l5_128) (by omega) (by omega)) dX9_mend_147 ?_
                        refine lv_topi (fun v_53 ev_53 => ?_)
                        have k_54 : 0 ≤ v_53.toInt ∧ v_53.toInt ≤ 255 := aR_get hR8 (by omega) (by omega) ev_53
                        clear ev_53
                        refine va_iast (f := a14_128) hx hb hK hP (rw_D hD) hS 5 4 rfl rfl (iv_in (i := l5_128) (by omega) (by omega)) dX9_mend_148 (fun H locs hP _ hS => ?_)
                        have hP : va_P (dC, dI) vwCl (rw_W o c kc (rU st 13 jt_1) lg (rU ai 14 (upd a14_128 l5_128.toNatClampNeg v_53)) al) H := hP
                        generalize hU_fresh : upd a14_128 l5_128.toNatClampNeg v_53 = g_55 at hP
                        clear hU_fresh
                        obtain ⟨x_56, ex_56⟩ : ∃ z : Int32, z = l5_128 + (1) := ⟨_, rfl⟩
                        refine lv_iinc (v := x_56) (lv' := [(5, .int x_56), (4, .int jt_76), (3, .int jt_50), (2, .int jt_37), (0, .ref o), (1, .int p0)]) hx hb dX9_mend_149 hl (k := 0) rfl (by rw [ex_56]; rfl) (by decide) rfl (fun ls hl => ?_)
                        have rg8 := iv_rng l5_128
                        have hx_56 : x_56.toInt = l5_128.toInt + (1) := by rw [ex_56]; exact (iv_add (by omega) (by omega)).trans (by omega)
                        clear ex_56
                        refine lv_goto (tgt := 128) hx hb dX9_mend_152 (by decide) ?_
                        exact ih128 x_56 g_55 _ _ _ (by omega) (by omega) (by omega) hP hS (lv_sub hl [0, 1, 2, 3, 4, 5] rfl)
                  exact loop128 ((23 - 0 : Int).toNat + 1) (0 : Int32) (ai 14) _ _ _ (by omega) (by omega) (by omega) hP hS (lv_sub hl [0, 1, 2, 3, 4, 5] rfl)
              refine lv_iload_n hx hb dX9_mend_89 rfl (lv_at hl 2 rfl) ?_
              refine lv_if_eq (tgt := 105) hx hb dX9_mend_90 (by decide) (fun c_57 => ?_) (fun c_57 => ?_)
              · skip
                have ic_57 := iv_eq c_57
                refine lv_aload_n hx hb dX9_mend_105 rfl (lv_at hl 3 rfl) ?_
                refine va_get (D := (dC, dI)) (ci := 11) (v := .int (st 9)) (C := RX9) (T := TX9) (N := 38) hx hb hts hin9 hown hK hP 0 rfl rfl 9 (by decide) (hts (.fieldLink RX9 271 "BlockLogModel" "tapeSize" "I") (by decide +kernel)) (fun _ h9 => h9) rfl dX9_mend_106 ?_
                refine lv_iconst (v := 1) hx hb dX9_mend_109 (by decide) ?_
                refine lv_bipush (v := 16) hx hb dX9_mend_110 (by decide) ?_
                refine vp_callSi (va_Run.run (va_runS (As := [.int (st 9), .int (1 : Int32), .int (16 : Int32)]) (rest := []) ⟨hx, hb, hml, hown, hts⟩ (v_X9_within l dC dI (st 9) (1 : Int32) (16 : Int32) ) (va_cwS 3 hts gX9_mend_X9_within rfl rfl rfl (by decide +kernel) ⟨Nat.le_of_ble_eq_true rfl, Nat.le_of_ble_eq_true rfl⟩) ⟨fun a U g mk q => q, fun U hU hW => ⟨rfl, trivial⟩⟩ rfl rfl hl.1 rfl (lv_room (Nat.le_of_ble_eq_true rfl)) dX9_mend_112 ⟨Nat.le_of_ble_eq_true rfl, Nat.le_of_ble_eq_true rfl⟩)) (fun r_58 er_58 => ?_)
                obtain ⟨k_59, k_60, k_61, k_62, k_63⟩ := er_58
                rcases iv_01 (a := r_58) (by omega) (by omega) with b_64 | b_64
                · skip
                  have ib_64 := iv_eq b_64
                  rw [b_64]
                  refine lv_if_ne (tgt := 121) hx hb dX9_mend_115 (by decide) (fun c_65 => ?_) (fun c_65 => ?_)
                  · skip
                    have ic_65 := iv_ne c_65
                    exfalso
                    omega
                  · skip
                    have ic_65 := iv_eq c_65
                    refine lv_bipush (v := (-10)) hx hb dX9_mend_118 (by decide) ?_
                    exact W.iret hx hb hr (fun t ht hW => ⟨⟨_, _, rfl, rfl, st 3, st 4, st 5, st 6, st 9, st 12, jt_1, st 15, ai 0, ai 14, (by omega), (by omega), (by omega), (by omega), (by omega), (by omega), (by omega), (by omega), (by omega), (by omega), by rw [ht]; exact hP⟩, hS.F ht⟩) hS.2.2 dX9_mend_120
                · skip
                  have ib_64 := iv_eq b_64
                  rw [b_64]
                  refine lv_if_ne (tgt := 121) hx hb dX9_mend_115 (by decide) (fun c_66 => ?_) (fun c_66 => ?_)
                  · skip
                    have ic_66 := iv_ne c_66
                    exact join89 _ _ _ hP hS (lv_sub hl [0, 1, 2, 3, 4] rfl)
                  · skip
                    have ic_66 := iv_eq c_66
                    exfalso
                    omega
              · skip
                have ic_57 := iv_ne c_57
                refine lv_aload_n hx hb dX9_mend_93 rfl (lv_at hl 3 rfl) ?_
                refine va_get (D := (dC, dI)) (ci := 11) (v := .int (st 9)) (C := RX9) (T := TX9) (N := 38) hx hb hts hin9 hown hK hP 0 rfl rfl 9 (by decide) (hts (.fieldLink RX9 271 "BlockLogModel" "tapeSize" "I") (by decide +kernel)) (fun _ h9 => h9) rfl dX9_mend_94 ?_
                refine lv_bipush (v := 23) hx hb dX9_mend_97 (by decide) ?_
                refine lv_icmp_eq (tgt := 121) hx hb dX9_mend_99 (by decide) (fun c_67 => ?_) (fun c_67 => ?_)
                · skip
                  have ic_67 := iv_eq c_67
                  exact join89 _ _ _ hP hS (lv_sub hl [0, 1, 2, 3, 4] rfl)
                · skip
                  have ic_67 := iv_ne c_67
                  refine lv_goto (tgt := 118) hx hb dX9_mend_102 (by decide) ?_
                  refine lv_bipush (v := (-10)) hx hb dX9_mend_118 (by decide) ?_
                  exact W.iret hx hb hr (fun t ht hW => ⟨⟨_, _, rfl, rfl, st 3, st 4, st 5, st 6, st 9, st 12, jt_1, st 15, ai 0, ai 14, (by omega), (by omega), (by omega), (by omega), (by omega), (by omega), (by omega), (by omega), (by omega), (by omega), by rw [ht]; exact hP⟩, hS.F ht⟩) hS.2.2 dX9_mend_120
            refine lv_iload_n hx hb dX9_mend_76 rfl (lv_at hl 1 rfl) ?_
            refine lv_if_eq (tgt := 85) hx hb dX9_mend_77 (by decide) (fun c_68 => ?_) (fun c_68 => ?_)
            · skip
              have ic_68 := iv_eq c_68
              refine lv_bipush (v := 17) hx hb dX9_mend_85 (by decide) ?_
              exact join76 (17 : Int32) _ _ _ (by omega) (by omega) (by omega) (by omega) hP hS (lv_sub hl [0, 1, 2, 3] rfl)
            · skip
              have ic_68 := iv_ne c_68
              refine lv_bipush (v := 23) hx hb dX9_mend_80 (by decide) ?_
              refine lv_goto (tgt := 87) hx hb dX9_mend_82 (by decide) ?_
              exact join76 (23 : Int32) _ _ _ (by omega) (by omega) (by omega) (by omega) hP hS (lv_sub hl [0, 1, 2, 3] rfl)
          refine lv_iload_n hx hb dX9_mend_50 rfl (lv_at hl 0 rfl) ?_
          refine lv_if_eq (tgt := 66) hx hb dX9_mend_51 (by decide) (fun c_69 => ?_) (fun c_69 => ?_)
          · skip
            have ic_69 := iv_eq c_69
            refine lv_aload_n hx hb dX9_mend_66 rfl (lv_at hl 1 rfl) ?_
            refine lv_iload_n hx hb dX9_mend_67 rfl (lv_at hl 2 rfl) ?_
            refine lv_sipush (v := 128) hx hb dX9_mend_68 (by decide) ?_
            refine lv_isub hx hb dX9_mend_71 ?_
            refine lv_topi (fun v_70 ev_70 => ?_)
            have rg9 := iv_rng p0
            have hv_70 : v_70.toInt = p0.toInt - 128 := by rw [ev_70]; exact (iv_sub (by omega) (by omega)).trans (by omega)
            clear ev_70
            refine vp_callSi (va_Run.run (va_runV (As := [.int v_70]) (rest := []) ⟨hx, hb, hml, hown, hts⟩ (v_X9_pagePlace l dC dI o c kc (rU st 13 jt_1) lg ai al v_70 (by omega) (by omega)) (cwV 1 hts gX9_mend_X9_pagePlace rfl rfl rfl (by decide +kernel) ⟨Nat.le_of_ble_eq_true rfl, Nat.le_of_ble_eq_true rfl⟩) ⟨fun a U g mk q => by obtain ⟨q0, qP, qK⟩ := q; exact ⟨q0, qP, va_K.moved (u := U) (U := U.calling g mk a) (Vm.Alike.refl U.vm) qK⟩, va_recv hK hP (ci := 11) (q := (RX9, TX9, 38)) rfl (q0 := 0) rfl, fun U hU hW => ⟨rfl, by rw [hU]; exact hP, va_K.moved hW.alike hK⟩⟩ rfl rfl hl.1 rfl (lv_room (Nat.le_of_ble_eq_true rfl)) dX9_mend_72 ⟨Nat.le_of_ble_eq_true rfl, Nat.le_of_ble_eq_true rfl⟩)) (fun r_71 er_71 => ?_)
            have k_72 := er_71
            exact join50 r_71 _ _ _ (by omega) (by omega) (by omega) (by omega) hP hS (lv_sub hl [0, 1, 2] rfl)
          · skip
            have ic_69 := iv_ne c_69
            refine lv_aload_n hx hb dX9_mend_54 rfl (lv_at hl 1 rfl) ?_
            refine lv_aload_n hx hb dX9_mend_55 rfl (lv_at hl 1 rfl) ?_
            refine va_get (D := (dC, dI)) (ci := 11) (v := .int (st 7)) (C := RX9) (T := TX9) (N := 38) hx hb hts hin9 hown hK hP 0 rfl rfl 7 (by decide) (hts (.fieldLink RX9 76 "BlockLogModel" "area" "I") (by decide +kernel)) (fun _ h9 => h9) rfl dX9_mend_56 ?_
            refine lv_iload_n hx hb dX9_mend_59 rfl (lv_at hl 2 rfl) ?_
            refine vp_callSi (va_Run.run (va_runV (As := [.int (st 7), .int p0]) (rest := []) ⟨hx, hb, hml, hown, hts⟩ (v_X9_rowPlace l dC dI o c kc (rU st 13 jt_1) lg ai al (st 7) p0 (by omega) (by omega) (by omega) (by omega)) (cwV 2 hts gX9_mend_X9_rowPlace rfl rfl rfl (by decide +kernel) ⟨Nat.le_of_ble_eq_true rfl, Nat.le_of_ble_eq_true rfl⟩) ⟨fun a U g mk q => by obtain ⟨q0, qP, qK⟩ := q; exact ⟨q0, qP, va_K.moved (u := U) (U := U.calling g mk a) (Vm.Alike.refl U.vm) qK⟩, va_recv hK hP (ci := 11) (q := (RX9, TX9, 38)) rfl (q0 := 0) rfl, fun U hU hW => ⟨rfl, by rw [hU]; exact hP, va_K.moved hW.alike hK⟩⟩ rfl rfl hl.1 rfl (lv_room (Nat.le_of_ble_eq_true rfl)) dX9_mend_60 ⟨Nat.le_of_ble_eq_true rfl, Nat.le_of_ble_eq_true rfl⟩)) (fun r_73 er_73 => ?_)
            have k_74 := er_73
            refine lv_goto (tgt := 75) hx hb dX9_mend_63 (by decide) ?_
            exact join50 r_73 _ _ _ (by omega) (by omega) (by omega) (by omega) hP hS (lv_sub hl [0, 1, 2] rfl)
        refine lv_iload_n hx hb dX9_mend_37 rfl (lv_at hl 1 rfl) ?_
        refine lv_sipush (v := 128) hx hb dX9_mend_38 (by decide) ?_
        refine lv_icmp_ge (tgt := 48) hx hb dX9_mend_41 (by decide) (fun c_75 => ?_) (fun c_75 => ?_)
        · skip
          have ic_75 := iv_le c_75
          refine lv_iconst (v := 0) hx hb dX9_mend_48 (by decide) ?_
          exact join37 (0 : Int32) _ _ _ (by omega) (by omega) (by omega) (by omega) hP hS (lv_sub hl [0, 1] rfl)
        · skip
          have ic_75 := iv_nle c_75
          refine lv_iconst (v := 1) hx hb dX9_mend_44 (by decide) ?_
          refine lv_goto (tgt := 49) hx hb dX9_mend_45 (by decide) ?_
          exact join37 (1 : Int32) _ _ _ (by omega) (by omega) (by omega) (by omega) hP hS (lv_sub hl [0, 1] rfl)
      · skip
        have ic_1 := iv_nle c_1
        refine lv_iconst (v := 0) hx hb dX9_mend_35 (by decide) ?_
        exact W.iret hx hb hr (fun t ht hW => ⟨⟨_, _, rfl, rfl, st 3, st 4, st 5, st 6, st 9, st 12, jt_1, st 15, ai 0, ai 14, (by omega), (by omega), (by omega), (by omega), (by omega), (by omega), (by omega), (by omega), (by omega), (by omega), by rw [ht]; exact hP⟩, hS.F ht⟩) hS.2.2 dX9_mend_36
    refine lv_aload_n hx hb dX9_mend_1 rfl (lv_at hl 0 rfl) ?_
    refine va_get (D := (dC, dI)) (ci := 11) (v := .int (st 3)) (C := RX9) (T := TX9) (N := 38) hx hb hts hin9 hown hK hP 0 rfl rfl 3 (by decide) (hts (.fieldLink RX9 72 "BlockLogModel" "on" "Z") (by decide +kernel)) (fun _ h9 => h9) rfl dX9_mend_2 ?_
    refine lv_if_ne (tgt := 12) hx hb dX9_mend_5 (by decide) (fun c_76 => ?_) (fun c_76 => ?_)
    · skip
      have ic_76 := iv_ne c_76
      refine lv_aload_n hx hb dX9_mend_12 rfl (lv_at hl 0 rfl) ?_
      refine lv_iload_n hx hb dX9_mend_13 rfl (lv_at hl 1 rfl) ?_
      refine vp_callSi (va_Run.run (va_runV (As := [.int p0]) (rest := [.ref o]) ⟨hx, hb, hml, hown, hts⟩ (v_X9_isAsked l dC dI o c kc st lg ai al p0 (show 1 ≤ (st 1).toInt by omega) (show (st 1).toInt ≤ 65536 by omega) (show 0 ≤ (st 7).toInt by omega) (show (st 7).toInt ≤ 1 by omega) (show 0 ≤ (st 15).toInt by omega) (show (st 15).toInt ≤ 128 by omega)) (cwV 1 hts gX9_mend_X9_isAsked rfl rfl rfl (by decide +kernel) ⟨Nat.le_of_ble_eq_true rfl, Nat.le_of_ble_eq_true rfl⟩) ⟨fun a U g mk q => by obtain ⟨q0, qP, qK⟩ := q; exact ⟨q0, qP, va_K.moved (u := U) (U := U.calling g mk a) (Vm.Alike.refl U.vm) qK⟩, va_recv hK hP (ci := 11) (q := (RX9, TX9, 38)) rfl (q0 := 0) rfl, fun U hU hW => ⟨rfl, by rw [hU]; exact hP, va_K.moved hW.alike hK⟩⟩ rfl rfl hl.1 rfl (lv_room (Nat.le_of_ble_eq_true rfl)) dX9_mend_14 ⟨Nat.le_of_ble_eq_true rfl, Nat.le_of_ble_eq_true rfl⟩)) (fun r_77 er_77 => ?_)
      obtain ⟨k_78, k_79, k_80, k_81⟩ := er_77
      have k_79 : (r_77.toInt = 1 → p0.toInt < 128 + (st 1).toInt) := k_79
      rcases iv_01 (a := r_77) (by omega) (by omega) with b_82 | b_82
      · skip
        have ib_82 := iv_eq b_82
        rw [b_82]
        refine lv_if_ne (tgt := 24) hx hb dX9_mend_17 (by decide) (fun c_83 => ?_) (fun c_83 => ?_)
        · skip
          have ic_83 := iv_ne c_83
          exfalso
          omega
        · skip
          have ic_83 := iv_eq c_83
          refine lv_iconst (v := 2) hx hb dX9_mend_20 (by decide) ?_
          refine lv_goto (tgt := 25) hx hb dX9_mend_21 (by decide) ?_
          exact join1 (2 : Int32) _ _ _ (by omega) (by omega) (by omega) (by omega) hP hS (lv_sub hl [0, 1] rfl)
      · skip
        have ib_82 := iv_eq b_82
        rw [b_82]
        refine lv_if_ne (tgt := 24) hx hb dX9_mend_17 (by decide) (fun c_84 => ?_) (fun c_84 => ?_)
        · skip
          have ic_84 := iv_ne c_84
          refine lv_iconst (v := 0) hx hb dX9_mend_24 (by decide) ?_
          exact join1 (0 : Int32) _ _ _ (by omega) (by omega) (by omega) (by omega) hP hS (lv_sub hl [0, 1] rfl)
        · skip
          have ic_84 := iv_eq c_84
          exfalso
          omega
    · skip
      have ic_76 := iv_eq c_76
      refine lv_iconst (v := 1) hx hb dX9_mend_8 (by decide) ?_
      refine lv_goto (tgt := 25) hx hb dX9_mend_9 (by decide) ?_
      exact join1 (1 : Int32) _ _ _ (by omega) (by omega) (by omega) (by omega) hP hS (lv_sub hl [0, 1] rfl)
  exact main s.heap [] hP hS
