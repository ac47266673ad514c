set_option maxHeartbeats 4000000 in
set_option maxRecDepth 100000 in
theorem v_X9_byteAt (l : Launch) (dC : Nat → ClassId) (dI : Nat → Nat → Nat) (o : Nat) (c : Nat → Nat) (kc : Nat → ClassId) (st : Nat → Int32) (lg : Nat → Int64) (ai : Nat → Nat → Int32) (al : Nat → Nat → Int64) (p0 : Int32) (sz : Nat) (hf2a : 8224 ≤ (st 2).toInt) (hf2b : (st 2).toInt ≤ 1712160) : Met l yX9_byteAt wsX9_byteAt ({ frames := 1, cells := 0, slots := 0, locals := 22 }) (va_Pc [.ref o, .int p0] (fun U => U.heap.size = sz ∧ va_P (dC, dI) vwCl (rw_W o c kc st lg ai al) U.heap ∧ va_K (dC, dI) vwCl (rw_T kc) U ∧ va_D (fun _ => True) (rw_W o c kc st lg ai al))) (va_Qi (fun r (u : Int32) => r = u) (fun u t => ∃ (x13 : Int32), va_P (dC, dI) vwCl (rw_W o c kc (rU st 13 x13) lg ai al) t.heap) (va_A (rw_W o c kc st lg ai al) sz)) 0 0 (va_A (rw_W o c kc st lg ai al) sz) := by
  refine Met.ofW (cc := cX9_byteAt) (maxL := 2) (ret := (some .int)) (by decide) rfl ?_
  intro p e s m args below meth cM s₁ B hml hv
  obtain ⟨rfl, hsz, hP, hK, hD0⟩ := hv
  have hx := B.exec
  have hb := B.bytes
  have hr := B.returns
  have hts := atoms_spec (ws := wsX9_byteAt) B.pre
  have hown : s.vm.findClass RX9 = some m.cls := findClass_of_methodNamed B.named
  subst hsz
  have hD := hD0.self (sz := s.heap.size)
  generalize hAe : va_A (rw_W o c kc st lg ai al) s.heap.size = A at hD ⊢
  have hA : ∀ q : Nat, s.heap.size ≤ q → A q := fun q h => by rw [← hAe]; exact Or.inr h
  have hS : va_S A s.heap s.heap [] := va_S.rf
  clear hAe hD0
  have hl := lv_entry ([.ref o, .int p0]) (n := 2) (Nat.le_of_ble_eq_true rfl)
  rw [lg_entry_eq]
  generalize (lg_sl ([.ref o, .int p0]) ++ List.replicate (2 - (lg_sl ([.ref o, .int p0])).length) Slot.unset).toArray = ls at hl ⊢
  have hl : lv_has ls 2 [(0, .ref o), (1, .int p0)] := hl
  have z_0 : (0 : Int32).toInt = 0 := by decide
  have z_1 : (1 : Int32).toInt = 1 := by decide
  have hin9 : ∀ w ∈ u_ws RX9 TX9 38, w ∈ wsX9_byteAt := by decide +kernel
  have main : ∀ (H : Heap) (locs : List Loc), va_P (dC, dI) vwCl (rw_W o c kc st lg ai al) H → va_S A s.heap H locs → W p l e (headSpec wsX9_byteAt ({ frames := 1, cells := 0, slots := 0, locals := 22 })).room s m ([.ref o, .int p0] : List Value).toArray below meth cM H locs 0 0 (MQ below (va_Qi (fun r (u : Int32) => r = u) (fun u t => ∃ (x13 : Int32), va_P (dC, dI) vwCl (rw_W o c kc (rU st 13 x13) lg ai al) t.heap) A) ([.ref o, .int p0] : List Value).toArray s 0 0 A) (F0 m 0 ls []) := by
    intro H locs hP hS
    refine lv_aload_n hx hb dX9_byteAt_0 rfl (lv_at hl 0 rfl) ?_
    refine lv_iload_n hx hb dX9_byteAt_1 rfl (lv_at hl 1 rfl) ?_
    refine lv_iconst (v := 0) hx hb dX9_byteAt_2 (by decide) ?_
    refine lv_aload_n hx hb dX9_byteAt_3 rfl (lv_at hl 0 rfl) ?_
    refine va_get (D := (dC, dI)) (ci := 11) (v := .int (st 2)) (C := RX9) (T := TX9) (N := 38) hx hb hts hin9 hown hK hP 0 rfl rfl 2 (by decide) (hts (.fieldLink RX9 66 "BlockLogModel" "size" "I") (by decide +kernel)) (fun _ h9 => h9) rfl dX9_byteAt_4 ?_
    refine lv_iconst (v := 1) hx hb dX9_byteAt_7 (by decide) ?_
    refine lv_isub hx hb dX9_byteAt_8 ?_
    refine lv_topi (fun v_1 ev_1 => ?_)
    have rg1 := iv_rng (st 2)
    have hv_1 : v_1.toInt = (st 2).toInt - 1 := by rw [ev_1]; exact (iv_sub (by omega) (by omega)).trans (by omega)
    clear ev_1
    refine vp_callSi (va_Run.run (va_runS (As := [.int p0, .int (0 : Int32), .int v_1]) (rest := [.ref o]) ⟨hx, hb, hml, hown, hts⟩ (v_X9_within l dC dI p0 (0 : Int32) v_1 ) (va_cwS 3 hts gX9_byteAt_X9_within rfl rfl rfl (by decide +kernel) ⟨Nat.le_of_ble_eq_true rfl, Nat.le_of_ble_eq_true rfl⟩) ⟨fun a U g mk q => q, fun U hU hW => ⟨rfl, trivial⟩⟩ rfl rfl hl.1 rfl (lv_room (Nat.le_of_ble_eq_true rfl)) dX9_byteAt_9 ⟨Nat.le_of_ble_eq_true rfl, Nat.le_of_ble_eq_true rfl⟩)) (fun r_2 er_2 => ?_)
    obtain ⟨k_3, k_4, k_5, k_6, k_7⟩ := er_2
    rcases iv_01 (a := r_2) (by omega) (by omega) with b_8 | b_8
    · skip
      have ib_8 := iv_eq b_8
      rw [b_8]
      refine lv_if_eq (tgt := 19) hx hb dX9_byteAt_12 (by decide) (fun c_9 => ?_) (fun c_9 => ?_)
      · skip
        have ic_9 := iv_eq c_9
        refine lv_iconst (v := 1) hx hb dX9_byteAt_19 (by decide) ?_
        refine va_put (D := (dC, dI)) (ci := 11) (v := .int (1 : Int32)) (ty := .int) (C := RX9) (T := TX9) (N := 38) hx hb hts hin9 tyX9 tyX9_ok nmX9 hown hK hP (rw_D hD) hS 0 rfl rfl 13 (by decide) (hts (.fieldLink RX9 91 "BlockLogModel" "thrown" "I") (by decide +kernel)) (fun _ h9 => h9) rfl (by decide +kernel) rfl rfl (Nat.le_of_ble_eq_true rfl) dX9_byteAt_20 (fun H locs hP _ hS => ?_)
        have hP : va_P (dC, dI) vwCl (rw_W o c kc (rU st 13 (1 : Int32)) lg ai al) H := hP
        refine lv_aload_n hx hb dX9_byteAt_23 rfl (lv_at hl 0 rfl) ?_
        refine va_get (D := (dC, dI)) (ci := 11) (v := .int (1 : Int32)) (C := RX9) (T := TX9) (N := 38) hx hb hts hin9 hown hK hP 0 rfl rfl 13 (by decide) (hts (.fieldLink RX9 91 "BlockLogModel" "thrown" "I") (by decide +kernel)) (fun _ h9 => h9) rfl dX9_byteAt_24 ?_
        refine lv_if_le (tgt := 34) hx hb dX9_byteAt_27 (by decide) (fun c_10 => ?_) (fun c_10 => ?_)
        · skip
          have ic_10 := iv_le c_10
          exfalso
          omega
        · skip
          have ic_10 := iv_nle c_10
          refine lv_iconst (v := 0) hx hb dX9_byteAt_30 (by decide) ?_
          refine lv_goto (tgt := 39) hx hb dX9_byteAt_31 (by decide) ?_
          exact W.iret hx hb hr (fun t ht hW => ⟨⟨_, _, rfl, rfl, (1 : Int32), by rw [ht]; exact hP⟩, hS.F ht⟩) hS.2.2 dX9_byteAt_39
      · skip
        have ic_9 := iv_ne c_9
        exfalso
        omega
    · skip
      have ib_8 := iv_eq b_8
      rw [b_8]
      refine lv_if_eq (tgt := 19) hx hb dX9_byteAt_12 (by decide) (fun c_11 => ?_) (fun c_11 => ?_)
      · skip
        have ic_11 := iv_eq c_11
        exfalso
        omega
      · skip
        have ic_11 := iv_ne c_11
        refine lv_iconst (v := 0) hx hb dX9_byteAt_15 (by decide) ?_
        refine lv_goto (tgt := 20) hx hb dX9_byteAt_16 (by decide) ?_
        refine va_put (D := (dC, dI)) (ci := 11) (v := .int (0 : Int32)) (ty := .int) (C := RX9) (T := TX9) (N := 38) hx hb hts hin9 tyX9 tyX9_ok nmX9 hown hK hP (rw_D hD) hS 0 rfl rfl 13 (by decide) (hts (.fieldLink RX9 91 "BlockLogModel" "thrown" "I") (by decide +kernel)) (fun _ h9 => h9) rfl (by decide +kernel) rfl rfl (Nat.le_of_ble_eq_true rfl) dX9_byteAt_20 (fun H locs hP _ hS => ?_)
        have hP : va_P (dC, dI) vwCl (rw_W o c kc (rU st 13 (0 : Int32)) lg ai al) H := hP
        refine lv_aload_n hx hb dX9_byteAt_23 rfl (lv_at hl 0 rfl) ?_
        refine va_get (D := (dC, dI)) (ci := 11) (v := .int (0 : Int32)) (C := RX9) (T := TX9) (N := 38) hx hb hts hin9 hown hK hP 0 rfl rfl 13 (by decide) (hts (.fieldLink RX9 91 "BlockLogModel" "thrown" "I") (by decide +kernel)) (fun _ h9 => h9) rfl dX9_byteAt_24 ?_
        refine lv_if_le (tgt := 34) hx hb dX9_byteAt_27 (by decide) (fun c_12 => ?_) (fun c_12 => ?_)
        · skip
          have ic_12 := iv_le c_12
          refine lv_aload_n hx hb dX9_byteAt_34 rfl (lv_at hl 0 rfl) ?_
          refine lv_iload_n hx hb dX9_byteAt_35 rfl (lv_at hl 1 rfl) ?_
          refine vp_callSi (va_Run.run (va_runV (As := [.int p0]) (rest := []) ⟨hx, hb, hml, hown, hts⟩ (v_X9_byteIn l dC dI o c kc (rU st 13 (0 : Int32)) lg ai al p0 (by omega) (by omega)) (cwV 1 hts gX9_byteAt_X9_byteIn rfl rfl rfl (by decide +kernel) ⟨Nat.le_of_ble_eq_true rfl, Nat.le_of_ble_eq_true rfl⟩) ⟨fun a U g mk q => by obtain ⟨q0, qP, qK⟩ := q; exact ⟨q0, qP, va_K.moved (u := U) (U := U.calling g mk a) (Vm.Alike.refl U.vm) qK⟩, va_recv hK hP (ci := 11) (q := (RX9, TX9, 38)) rfl (q0 := 0) rfl, fun U hU hW => ⟨rfl, by rw [hU]; exact hP, va_K.moved hW.alike hK⟩⟩ rfl rfl hl.1 rfl (lv_room (Nat.le_of_ble_eq_true rfl)) dX9_byteAt_36 ⟨Nat.le_of_ble_eq_true rfl, Nat.le_of_ble_eq_true rfl⟩)) (fun r_13 er_13 => ?_)
          obtain ⟨k_14, k_15, k_16⟩ := er_13
          have k_14 : r_13.toInt = (md_get (ai 0) p0).toInt := k_14
          exact W.iret hx hb hr (fun t ht hW => ⟨⟨_, _, rfl, rfl, (0 : Int32), by rw [ht]; exact hP⟩, hS.F ht⟩) hS.2.2 dX9_byteAt_39
        · skip
          have ic_12 := iv_nle c_12
          exfalso
          omega
  exact main s.heap [] hP hS

set_option maxHeartbeats 4000000 in
set_option maxRecDepth 100000 in
theorem v_X9_told (l : Launch) (dC : Nat → ClassId) (dI : Nat → Nat → Nat) (o : Nat) (c : Nat → Nat) (kc : Nat → ClassId) (st : Nat → Int32) (lg : Nat → Int64) (ai : Nat → Nat → Int32) (al : Nat → Nat → Int64) (p0 : Int32) (sz : Nat) (hf1a : 1 ≤ (st 1).toInt) (hf1b : (st 1).toInt ≤ 65536) (hf3a : 0 ≤ (st 3).toInt) (hf3b : (st 3).toInt ≤ 1) (hf7a : 0 ≤ (st 7).toInt) (hf7b : (st 7).toInt ≤ 1) (hf12a : 0 ≤ (st 12).toInt) (hf12b : (st 12).toInt ≤ 8) (hf15a : 0 ≤ (st 15).toInt) (hf15b : (st 15).toInt ≤ 128) : Met l yX9_told wsX9_told ({ frames := 6, cells := 0, slots := 0, locals := 137 }) (va_Pc [.ref o, .int p0] (fun U => U.heap.size = sz ∧ va_P (dC, dI) vwCl (rw_W o c kc st lg ai al) U.heap ∧ va_K (dC, dI) vwCl (rw_T kc) U ∧ va_D (fun _ => True) (rw_W o c kc st lg ai al))) (va_Qi (fun r (u : Int32) => r = u) (fun u t => ∃ (x13 : Int32), va_P (dC, dI) vwCl (rw_W o c kc (rU st 13 x13) lg ai al) t.heap) (va_A (rw_W o c kc st lg ai al) sz)) 0 0 (va_A (rw_W o c kc st lg ai al) sz) := by
  refine Met.ofW (cc := cX9_told) (maxL := 2) (ret := (some .int)) (by decide) rfl ?_
  intro p e s m args below meth cM s₁ B hml hv
  obtain ⟨rfl, hsz, hP, hK, hD0⟩ := hv
  have hx := B.exec
  have hb := B.bytes
  have hr := B.returns
  have hts := atoms_spec (ws := wsX9_told) B.pre
  have hown : s.vm.findClass RX9 = some m.cls := findClass_of_methodNamed B.named
  subst hsz
  have hD := hD0.self (sz := s.heap.size)
  generalize hAe : va_A (rw_W o c kc st lg ai al) s.heap.size = A at hD ⊢
  have hA : ∀ q : Nat, s.heap.size ≤ q → A q := fun q h => by rw [← hAe]; exact Or.inr h
  have hS : va_S A s.heap s.heap [] := va_S.rf
  clear hAe hD0
  have hl := lv_entry ([.ref o, .int p0]) (n := 2) (Nat.le_of_ble_eq_true rfl)
  rw [lg_entry_eq]
  generalize (lg_sl ([.ref o, .int p0]) ++ List.replicate (2 - (lg_sl ([.ref o, .int p0])).length) Slot.unset).toArray = ls at hl ⊢
  have hl : lv_has ls 2 [(0, .ref o), (1, .int p0)] := hl
  have z_0 : (0 : Int32).toInt = 0 := by decide
  have z_1 : (1 : Int32).toInt = 1 := by decide
  have z_2 : (2 : Int32).toInt = 2 := by decide
  have z_3 : (3 : Int32).toInt = 3 := by decide
  have z_4 : (4 : Int32).toInt = 4 := by decide
  have z_5 : (5 : Int32).toInt = 5 := by decide
  have z_6 : (6 : Int32).toInt = 6 := by decide
  have z_7 : (7 : Int32).toInt = 7 := by decide
  have z_8 : (8 : Int32).toInt = 8 := by decide
  have z_16 : (16 : Int32).toInt = 16 := by decide
  have hin9 : ∀ w ∈ u_ws RX9 TX9 38, w ∈ wsX9_told := by decide +kernel
  have main : ∀ (H : Heap) (locs : List Loc), va_P (dC, dI) vwCl (rw_W o c kc st lg ai al) H → va_S A s.heap H locs → W p l e (headSpec wsX9_told ({ frames := 6, cells := 0, slots := 0, locals := 137 })).room s m ([.ref o, .int p0] : List Value).toArray below meth cM H locs 0 0 (MQ below (va_Qi (fun r (u : Int32) => r = u) (fun u t => ∃ (x13 : Int32), va_P (dC, dI) vwCl (rw_W o c kc (rU st 13 x13) lg ai al) t.heap) A) ([.ref o, .int p0] : List Value).toArray s 0 0 A) (F0 m 0 ls []) := by
    intro H locs hP hS
    refine lv_aload_n hx hb dX9_told_0 rfl (lv_at hl 0 rfl) ?_
    refine lv_iload_n hx hb dX9_told_1 rfl (lv_at hl 1 rfl) ?_
    refine lv_iconst (v := 0) hx hb dX9_told_2 (by decide) ?_
    refine lv_bipush (v := 8) hx hb dX9_told_3 (by decide) ?_
    refine vp_callSi (va_Run.run (va_runS (As := [.int p0, .int (0 : Int32), .int (8 : Int32)]) (rest := [.ref o]) ⟨hx, hb, hml, hown, hts⟩ (v_X9_within l dC dI p0 (0 : Int32) (8 : Int32) ) (va_cwS 3 hts gX9_told_X9_within rfl rfl rfl (by decide +kernel) ⟨Nat.le_of_ble_eq_true rfl, Nat.le_of_ble_eq_true rfl⟩) ⟨fun a U g mk q => q, fun U hU hW => ⟨rfl, trivial⟩⟩ rfl rfl hl.1 rfl (lv_room (Nat.le_of_ble_eq_true rfl)) dX9_told_5 ⟨Nat.le_of_ble_eq_true rfl, Nat.le_of_ble_eq_true rfl⟩)) (fun r_1 er_1 => ?_)
    obtain ⟨k_2, k_3, k_4, k_5, k_6⟩ := er_1
    rcases iv_01 (a := r_1) (by omega) (by omega) with b_7 | b_7
    · skip
      have ib_7 := iv_eq b_7
      rw [b_7]
      refine lv_if_eq (tgt := 15) hx hb dX9_told_8 (by decide) (fun c_8 => ?_) (fun c_8 => ?_)
      · skip
        have ic_8 := iv_eq c_8
        refine lv_iconst (v := 1) hx hb dX9_told_15 (by decide) ?_
        refine va_put (D := (dC, dI)) (ci := 11) (v := .int (1 : Int32)) (ty := .int) (C := RX9) (T := TX9) (N := 38) hx hb hts hin9 tyX9 tyX9_ok nmX9 hown hK hP (rw_D hD) hS 0 rfl rfl 13 (by decide) (hts (.fieldLink RX9 91 "BlockLogModel" "thrown" "I") (by decide +kernel)) (fun _ h9 => h9) rfl (by decide +kernel) rfl rfl (Nat.le_of_ble_eq_true rfl) dX9_told_16 (fun H locs hP _ hS => ?_)
        have hP : va_P (dC, dI) vwCl (rw_W o c kc (rU st 13 (1 : Int32)) lg ai al) H := hP
        refine lv_aload_n hx hb dX9_told_19 rfl (lv_at hl 0 rfl) ?_
        refine va_get (D := (dC, dI)) (ci := 11) (v := .int (1 : Int32)) (C := RX9) (T := TX9) (N := 38) hx hb hts hin9 hown hK hP 0 rfl rfl 13 (by decide) (hts (.fieldLink RX9 91 "BlockLogModel" "thrown" "I") (by decide +kernel)) (fun _ h9 => h9) rfl dX9_told_20 ?_
        refine lv_if_le (tgt := 28) hx hb dX9_told_23 (by decide) (fun c_9 => ?_) (fun c_9 => ?_)
        · skip
          have ic_9 := iv_le c_9
          exfalso
          omega
        · skip
          have ic_9 := iv_nle c_9
          refine lv_iconst (v := 0) hx hb dX9_told_26 (by decide) ?_
          exact W.iret hx hb hr (fun t ht hW => ⟨⟨_, _, rfl, rfl, (1 : Int32), by rw [ht]; exact hP⟩, hS.F ht⟩) hS.2.2 dX9_told_27
      · skip
        have ic_8 := iv_ne c_8
        exfalso
        omega
    · skip
      have ib_7 := iv_eq b_7
      rw [b_7]
      refine lv_if_eq (tgt := 15) hx hb dX9_told_8 (by decide) (fun c_10 => ?_) (fun c_10 => ?_)
      · skip
        have ic_10 := iv_eq c_10
        exfalso
        omega
      · skip
        have ic_10 := iv_ne c_10
        refine lv_iconst (v := 0) hx hb dX9_told_11 (by decide) ?_
        refine lv_goto (tgt := 16) hx hb dX9_told_12 (by decide) ?_
        refine va_put (D := (dC, dI)) (ci := 11) (v := .int (0 : Int32)) (ty := .int) (C := RX9) (T := TX9) (N := 38) hx hb hts hin9 tyX9 tyX9_ok nmX9 hown hK hP (rw_D hD) hS 0 rfl rfl 13 (by decide) (hts (.fieldLink RX9 91 "BlockLogModel" "thrown" "I") (by decide +kernel)) (fun _ h9 => h9) rfl (by decide +kernel) rfl rfl (Nat.le_of_ble_eq_true rfl) dX9_told_16 (fun H locs hP _ hS => ?_)
        have hP : va_P (dC, dI) vwCl (rw_W o c kc (rU st 13 (0 : Int32)) lg ai al) H := hP
        refine lv_aload_n hx hb dX9_told_19 rfl (lv_at hl 0 rfl) ?_
        refine va_get (D := (dC, dI)) (ci := 11) (v := .int (0 : Int32)) (C := RX9) (T := TX9) (N := 38) hx hb hts hin9 hown hK hP 0 rfl rfl 13 (by decide) (hts (.fieldLink RX9 91 "BlockLogModel" "thrown" "I") (by decide +kernel)) (fun _ h9 => h9) rfl dX9_told_20 ?_
        refine lv_if_le (tgt := 28) hx hb dX9_told_23 (by decide) (fun c_11 => ?_) (fun c_11 => ?_)
        · skip
          have ic_11 := iv_le c_11
          refine lv_iload_n hx hb dX9_told_28 rfl (lv_at hl 1 rfl) ?_
          refine lv_if_ne (tgt := 45) hx hb dX9_told_29 (by decide) (fun c_12 => ?_) (fun c_12 => ?_)
          · skip
            have ic_12 := iv_ne c_12
            refine lv_iload_n hx hb dX9_told_45 rfl (lv_at hl 1 rfl) ?_
            refine lv_iconst (v := 1) hx hb dX9_told_46 (by decide) ?_
            refine lv_icmp_ne (tgt := 55) hx hb dX9_told_47 (by decide) (fun c_13 => ?_) (fun c_13 => ?_)
            · skip
              have ic_13 := iv_ne c_13
              refine lv_aload_n hx hb dX9_told_55 rfl (lv_at hl 0 rfl) ?_
              refine va_get (D := (dC, dI)) (ci := 11) (v := .int (st 3)) (C := RX9) (T := TX9) (N := 38) hx hb hts hin9 hown hK hP 0 rfl rfl 3 (by decide) (hts (.fieldLink RX9 72 "BlockLogModel" "on" "Z") (by decide +kernel)) (fun _ h9 => h9) rfl dX9_told_56 ?_
              refine lv_if_ne (tgt := 64) hx hb dX9_told_59 (by decide) (fun c_14 => ?_) (fun c_14 => ?_)
              · skip
                have ic_14 := iv_ne c_14
                refine lv_iload_n hx hb dX9_told_64 rfl (lv_at hl 1 rfl) ?_
                rcases Decidable.em (p0 = (2 : Int32)) with t_15 | t_15
                · skip
                  have it_15 := iv_eq t_15
                  refine lv_tableIn (off := 39) (tgt := 104) hx hb dX9_told_65 (by omega) (by omega) (by rw [show (p0.toInt - 2).toNat = 0 by omega]; decide +kernel) (by decide) ?_
                  refine lv_aload_n hx hb dX9_told_104 rfl (lv_at hl 0 rfl) ?_
                  refine va_get (D := (dC, dI)) (ci := 11) (v := .int (st 7)) (C := RX9) (T := TX9) (N := 38) hx hb hts hin9 hown hK hP 0 rfl rfl 7 (by decide) (hts (.fieldLink RX9 76 "BlockLogModel" "area" "I") (by decide +kernel)) (fun _ h9 => h9) rfl dX9_told_105 ?_
                  exact W.iret hx hb hr (fun t ht hW => ⟨⟨_, _, rfl, rfl, (0 : Int32), by rw [ht]; exact hP⟩, hS.F ht⟩) hS.2.2 dX9_told_108
                · skip
                  have it_15 := iv_ne t_15
                  rcases Decidable.em (p0 = (3 : Int32)) with t_16 | t_16
                  · skip
                    have it_16 := iv_eq t_16
                    refine lv_tableIn (off := 44) (tgt := 109) hx hb dX9_told_65 (by omega) (by omega) (by rw [show (p0.toInt - 2).toNat = 1 by omega]; decide +kernel) (by decide) ?_
                    refine lv_aload_n hx hb dX9_told_109 rfl (lv_at hl 0 rfl) ?_
                    refine lv_bipush (v := 16) hx hb dX9_told_110 (by decide) ?_
                    refine lv_aload_n hx hb dX9_told_112 rfl (lv_at hl 0 rfl) ?_
                    refine va_get (D := (dC, dI)) (ci := 11) (v := .int (st 7)) (C := RX9) (T := TX9) (N := 38) hx hb hts hin9 hown hK hP 0 rfl rfl 7 (by decide) (hts (.fieldLink RX9 76 "BlockLogModel" "area" "I") (by decide +kernel)) (fun _ h9 => h9) rfl dX9_told_113 ?_
                    refine lv_imul hx hb dX9_told_116 ?_
                    refine lv_topi (fun v_17 ev_17 => ?_)
                    have rg1 := iv_rng (st 7)
                    have hv_17 : v_17.toInt = 16 * (st 7).toInt := by rw [ev_17]; exact (iv_mulc z_16 (by omega) (by omega)).trans (by omega)
                    clear ev_17
                    refine lv_iconst (v := 4) hx hb dX9_told_117 (by decide) ?_
                    refine vp_callSl (va_Run.run (va_runV (As := [.int v_17, .int (4 : Int32)]) (rest := []) ⟨hx, hb, hml, hown, hts⟩ (v_X9_number l dC dI o c kc (rU st 13 (0 : Int32)) lg ai al v_17 (4 : Int32) (by omega) (by omega) (by omega) (by omega)) (cwV 2 hts gX9_told_X9_number rfl rfl rfl (by decide +kernel) ⟨Nat.le_of_ble_eq_true rfl, Nat.le_of_ble_eq_true rfl⟩) ⟨fun a U g mk q => by obtain ⟨q0, qP, qK⟩ := q; exact ⟨q0, qP, va_K.moved (u := U) (U := U.calling g mk a) (Vm.Alike.refl U.vm) qK⟩, va_recv hK hP (ci := 11) (q := (RX9, TX9, 38)) rfl (q0 := 0) rfl, fun U hU hW => ⟨rfl, by rw [hU]; exact hP, va_K.moved hW.alike hK⟩⟩ rfl rfl hl.1 rfl (lv_room (Nat.le_of_ble_eq_true rfl)) dX9_told_118 ⟨Nat.le_of_ble_eq_true rfl, Nat.le_of_ble_eq_true rfl⟩)) (fun r_18 er_18 => ?_)
                    have hn := er_18
                    have hn : r_18 = md_num (ai 0) v_17 (4 : Int32).toNatClampNeg := hn
                    refine lv_l2i hx hb dX9_told_121 rfl ?_
                    refine lv_topi (fun v_19 ev_19 => ?_)
                    clear ev_19
                    exact W.iret hx hb hr (fun t ht hW => ⟨⟨_, _, rfl, rfl, (0 : Int32), by rw [ht]; exact hP⟩, hS.F ht⟩) hS.2.2 dX9_told_122
                  · skip
                    have it_16 := iv_ne t_16
                    rcases Decidable.em (p0 = (4 : Int32)) with t_20 | t_20
                    · skip
                      have it_20 := iv_eq t_20
                      refine lv_tableIn (off := 58) (tgt := 123) hx hb dX9_told_65 (by omega) (by omega) (by rw [show (p0.toInt - 2).toNat = 2 by omega]; decide +kernel) (by decide) ?_
                      refine lv_aload_n hx hb dX9_told_123 rfl (lv_at hl 0 rfl) ?_
                      refine vp_callSi (va_Run.run (va_runV (As := []) (rest := []) ⟨hx, hb, hml, hown, hts⟩ (v_X9_rows l dC dI o c kc (rU st 13 (0 : Int32)) lg ai al  (show 0 ≤ (st 15).toInt by omega) (show (st 15).toInt ≤ 128 by omega)) (cwV 0 hts gX9_told_X9_rows rfl rfl rfl (by decide +kernel) ⟨Nat.le_of_ble_eq_true rfl, Nat.le_of_ble_eq_true rfl⟩) ⟨fun a U g mk q => by obtain ⟨q0, qP, qK⟩ := q; exact ⟨q0, qP, va_K.moved (u := U) (U := U.calling g mk a) (Vm.Alike.refl U.vm) qK⟩, va_recv hK hP (ci := 11) (q := (RX9, TX9, 38)) rfl (q0 := 0) rfl, fun U hU hW => ⟨rfl, by rw [hU]; exact hP, va_K.moved hW.alike hK⟩⟩ rfl rfl hl.1 rfl (lv_room (Nat.le_of_ble_eq_true rfl)) dX9_told_124 ⟨Nat.le_of_ble_eq_true rfl, Nat.le_of_ble_eq_true rfl⟩)) (fun r_21 er_21 => ?_)
                      have k_22 := er_21
                      have k_22 : r_21.toInt = (st 15).toInt := k_22
                      exact W.iret hx hb hr (fun t ht hW => ⟨⟨_, _, rfl, rfl, (0 : Int32), by rw [ht]; exact hP⟩, hS.F ht⟩) hS.2.2 dX9_told_127
                    · skip
                      have it_20 := iv_ne t_20
                      rcases Decidable.em (p0 = (5 : Int32)) with t_23 | t_23
                      · skip
                        have it_23 := iv_eq t_23
                        refine lv_tableIn (off := 63) (tgt := 128) hx hb dX9_told_65 (by omega) (by omega) (by rw [show (p0.toInt - 2).toNat = 3 by omega]; decide +kernel) (by decide) ?_
                        refine lv_aload_n hx hb dX9_told_128 rfl (lv_at hl 0 rfl) ?_
                        refine vp_callSi (va_Run.run (va_runV (As := []) (rest := []) ⟨hx, hb, hml, hown, hts⟩ (v_X9_freePages l dC dI o c kc (rU st 13 (0 : Int32)) lg ai al  (show 1 ≤ (st 1).toInt by omega) (show (st 1).toInt ≤ 65536 by omega)) (cwV 0 hts gX9_told_X9_freePages rfl rfl rfl (by decide +kernel) ⟨Nat.le_of_ble_eq_true rfl, Nat.le_of_ble_eq_true rfl⟩) ⟨fun a U g mk q => by obtain ⟨q0, qP, qK⟩ := q; exact ⟨q0, qP, va_K.moved (u := U) (U := U.calling g mk a) (Vm.Alike.refl U.vm) qK⟩, va_recv hK hP (ci := 11) (q := (RX9, TX9, 38)) rfl (q0 := 0) rfl, fun U hU hW => ⟨rfl, by rw [hU]; exact hP, va_K.moved hW.alike hK⟩⟩ rfl rfl hl.1 rfl (lv_room (Nat.le_of_ble_eq_true rfl)) dX9_told_129 ⟨Nat.le_of_ble_eq_true rfl, Nat.le_of_ble_eq_true rfl⟩)) (fun r_24 er_24 => ?_)
                        obtain ⟨k_25, k_26⟩ := er_24
                        have k_26 : r_24.toInt ≤ (st 1).toInt := k_26
                        exact W.iret hx hb hr (fun t ht hW => ⟨⟨_, _, rfl, rfl, (0 : Int32), by rw [ht]; exact hP⟩, hS.F ht⟩) hS.2.2 dX9_told_132
                      · skip
                        have it_23 := iv_ne t_23
                        rcases Decidable.em (p0 = (6 : Int32)) with t_27 | t_27
                        · skip
                          have it_27 := iv_eq t_27
                          refine lv_tableIn (off := 68) (tgt := 133) hx hb dX9_told_65 (by omega) (by omega) (by rw [show (p0.toInt - 2).toNat = 4 by omega]; decide +kernel) (by decide) ?_
                          refine lv_aload_n hx hb dX9_told_133 rfl (lv_at hl 0 rfl) ?_
                          refine vp_callSi (va_Run.run (va_runV (As := []) (rest := []) ⟨hx, hb, hml, hown, hts⟩ (v_X9_badRows l dC dI o c kc (rU st 13 (0 : Int32)) lg ai al  (show 0 ≤ (st 7).toInt by omega) (show (st 7).toInt ≤ 1 by omega) (show 0 ≤ (st 15).toInt by omega) (show (st 15).toInt ≤ 128 by omega)) (cwV 0 hts gX9_told_X9_badRows rfl rfl rfl (by decide +kernel) ⟨Nat.le_of_ble_eq_true rfl, Nat.le_of_ble_eq_true rfl⟩) ⟨fun a U g mk q => by obtain ⟨q0, qP, qK⟩ := q; exact ⟨q0, qP, va_K.moved (u := U) (U := U.calling g mk a) (Vm.Alike.refl U.vm) qK⟩, va_recv hK hP (ci := 11) (q := (RX9, TX9, 38)) rfl (q0 := 0) rfl, fun U hU hW => ⟨rfl, by rw [hU]; exact hP, va_K.moved hW.alike hK⟩⟩ rfl rfl hl.1 rfl (lv_room (Nat.le_of_ble_eq_true rfl)) dX9_told_134 ⟨Nat.le_of_ble_eq_true rfl, Nat.le_of_ble_eq_true rfl⟩)) (fun r_28 er_28 => ?_)
                          obtain ⟨k_29, k_30⟩ := er_28
                          exact W.iret hx hb hr (fun t ht hW => ⟨⟨_, _, rfl, rfl, (0 : Int32), by rw [ht]; exact hP⟩, hS.F ht⟩) hS.2.2 dX9_told_137
                        · skip
                          have it_27 := iv_ne t_27
                          rcases Decidable.em (p0 = (7 : Int32)) with t_31 | t_31
                          · skip
                            have it_31 := iv_eq t_31
                            refine lv_tableIn (off := 73) (tgt := 138) hx hb dX9_told_65 (by omega) (by omega) (by rw [show (p0.toInt - 2).toNat = 5 by omega]; decide +kernel) (by decide) ?_
                            refine lv_aload_n hx hb dX9_told_138 rfl (lv_at hl 0 rfl) ?_
                            refine vp_callSi (va_Run.run (va_runV (As := []) (rest := []) ⟨hx, hb, hml, hown, hts⟩ (v_X9_badPages l dC dI o c kc (rU st 13 (0 : Int32)) lg ai al  (show 1 ≤ (st 1).toInt by omega) (show (st 1).toInt ≤ 65536 by omega)) (cwV 0 hts gX9_told_X9_badPages rfl rfl rfl (by decide +kernel) ⟨Nat.le_of_ble_eq_true rfl, Nat.le_of_ble_eq_true rfl⟩) ⟨fun a U g mk q => by obtain ⟨q0, qP, qK⟩ := q; exact ⟨q0, qP, va_K.moved (u := U) (U := U.calling g mk a) (Vm.Alike.refl U.vm) qK⟩, va_recv hK hP (ci := 11) (q := (RX9, TX9, 38)) rfl (q0 := 0) rfl, fun U hU hW => ⟨rfl, by rw [hU]; exact hP, va_K.moved hW.alike hK⟩⟩ rfl rfl hl.1 rfl (lv_room (Nat.le_of_ble_eq_true rfl)) dX9_told_139 ⟨Nat.le_of_ble_eq_true rfl, Nat.le_of_ble_eq_true rfl⟩)) (fun r_32 er_32 => ?_)
                            obtain ⟨k_33, k_34⟩ := er_32
                            have k_34 : r_32.toInt ≤ (st 1).toInt := k_34
                            exact W.iret hx hb hr (fun t ht hW => ⟨⟨_, _, rfl, rfl, (0 : Int32), by rw [ht]; exact hP⟩, hS.F ht⟩) hS.2.2 dX9_told_142
                          · skip
                            have it_31 := iv_ne t_31
                            refine lv_tableOut (tgt := 143) hx hb dX9_told_65 (by omega) (by decide) ?_
                            refine lv_aload_n hx hb dX9_told_143 rfl (lv_at hl 0 rfl) ?_
                            refine va_get (D := (dC, dI)) (ci := 11) (v := .int (st 12)) (C := RX9) (T := TX9) (N := 38) hx hb hts hin9 hown hK hP 0 rfl rfl 12 (by decide) (hts (.fieldLink RX9 111 "BlockLogModel" "collected" "I") (by decide +kernel)) (fun _ h9 => h9) rfl dX9_told_144 ?_
                            exact W.iret hx hb hr (fun t ht hW => ⟨⟨_, _, rfl, rfl, (0 : Int32), by rw [ht]; exact hP⟩, hS.F ht⟩) hS.2.2 dX9_told_147
              · skip
                have ic_14 := iv_eq c_14
                refine lv_iconst (v := 0) hx hb dX9_told_62 (by decide) ?_
                exact W.iret hx hb hr (fun t ht hW => ⟨⟨_, _, rfl, rfl, (0 : Int32), by rw [ht]; exact hP⟩, hS.F ht⟩) hS.2.2 dX9_told_63
            · skip
              have ic_13 := iv_eq c_13
              refine lv_aload_n hx hb dX9_told_50 rfl (lv_at hl 0 rfl) ?_
              refine va_get (D := (dC, dI)) (ci := 11) (v := .int (st 4)) (C := RX9) (T := TX9) (N := 38) hx hb hts hin9 hown hK hP 0 rfl rfl 4 (by decide) (hts (.fieldLink RX9 114 "BlockLogModel" "acts" "I") (by decide +kernel)) (fun _ h9 => h9) rfl dX9_told_51 ?_
              exact W.iret hx hb hr (fun t ht hW => ⟨⟨_, _, rfl, rfl, (0 : Int32), by rw [ht]; exact hP⟩, hS.F ht⟩) hS.2.2 dX9_told_54
          · skip
            have ic_12 := iv_eq c_12
            refine lv_aload_n hx hb dX9_told_32 rfl (lv_at hl 0 rfl) ?_
            refine va_get (D := (dC, dI)) (ci := 11) (v := .int (st 3)) (C := RX9) (T := TX9) (N := 38) hx hb hts hin9 hown hK hP 0 rfl rfl 3 (by decide) (hts (.fieldLink RX9 72 "BlockLogModel" "on" "Z") (by decide +kernel)) (fun _ h9 => h9) rfl dX9_told_33 ?_
            refine lv_if_eq (tgt := 43) hx hb dX9_told_36 (by decide) (fun c_35 => ?_) (fun c_35 => ?_)
            · skip
              have ic_35 := iv_eq c_35
              refine lv_iconst (v := 0) hx hb dX9_told_43 (by decide) ?_
              exact W.iret hx hb hr (fun t ht hW => ⟨⟨_, _, rfl, rfl, (0 : Int32), by rw [ht]; exact hP⟩, hS.F ht⟩) hS.2.2 dX9_told_44
            · skip
              have ic_35 := iv_ne c_35
              refine lv_iconst (v := 1) hx hb dX9_told_39 (by decide) ?_
              refine lv_goto (tgt := 44) hx hb dX9_told_40 (by decide) ?_
              exact W.iret hx hb hr (fun t ht hW => ⟨⟨_, _, rfl, rfl, (0 : Int32), by rw [ht]; exact hP⟩, hS.F ht⟩) hS.2.2 dX9_told_44
        · skip
          have ic_11 := iv_nle c_11
          exfalso
          omega
  exact main s.heap [] hP hS

set_option maxHeartbeats 4000000 in
set_option maxRecDepth 100000 in
theorem v_X9_thrown (l : Launch) (dC : Nat → ClassId) (dI : Nat → Nat → Nat) (o : Nat) (c : Nat → Nat) (kc : Nat → ClassId) (st : Nat → Int32) (lg : Nat → Int64) (ai : Nat → Nat → Int32) (al : Nat → Nat → Int64)   : Met l yX9_thrown wsX9_thrown ({ frames := 0, cells := 0, slots := 0, locals := 0 }) (va_Pc [.ref o] (fun U => va_P (dC, dI) vwCl (rw_W o c kc st lg ai al) U.heap ∧ va_K (dC, dI) vwCl (rw_T kc) U)) (vp_Si (fun r => True)) 0 0 (fun _ => False) := by
  refine Met.ofW (cc := cX9_thrown) (maxL := 1) (ret := (some .int)) (by decide) rfl ?_
  intro p e s m args below meth cM s₁ B hml hv
  obtain ⟨rfl, hP, hK⟩ := hv
  have hx := B.exec
  have hb := B.bytes
  have hr := B.returns
  have hts := atoms_spec (ws := wsX9_thrown) B.pre
  have hown : s.vm.findClass RX9 = some m.cls := findClass_of_methodNamed B.named
  have hl := lv_entry ([.ref o]) (n := 1) (Nat.le_of_ble_eq_true rfl)
  rw [lg_entry_eq]
  generalize (lg_sl ([.ref o]) ++ List.replicate (1 - (lg_sl ([.ref o])).length) Slot.unset).toArray = ls at hl ⊢
  have hl : lv_has ls 1 [(0, .ref o)] := hl
  have hin9 : ∀ w ∈ u_ws RX9 TX9 38, w ∈ wsX9_thrown := by decide +kernel
  refine lv_aload_n hx hb dX9_thrown_0 rfl (lv_at hl 0 rfl) ?_
  refine va_get (D := (dC, dI)) (ci := 11) (v := .int (st 13)) (C := RX9) (T := TX9) (N := 38) hx hb hts hin9 hown hK hP 0 rfl rfl 13 (by decide) (hts (.fieldLink RX9 91 "BlockLogModel" "thrown" "I") (by decide +kernel)) (fun _ h9 => h9) rfl dX9_thrown_1 ?_
  exact W.iret hx hb hr (fun t ht hW => ⟨_, rfl, trivial, ht⟩) (fun q h => by cases h) dX9_thrown_4
