set_option maxHeartbeats 4000000 in
set_option maxRecDepth 100000 in
theorem v_X3_isAbove (l : Launch) (dC : Nat → ClassId) (dI : Nat → Nat → Nat) (c : Nat → Nat) (kc : Nat → ClassId) (st : Nat → Int32) (lg : Nat → Int64) (ai : Nat → Nat → Int32) (al : Nat → Nat → Int64) (R : va_W) (p0 : Int32) (p1 : Int32) (hf15a : 0 ≤ (st 15).toInt) (hf15b : (st 15).toInt ≤ 1) (hf25a : 0 ≤ (st 25).toInt) (hf25b : (st 25).toInt ≤ 128) (hq0 : 0 ≤ p0.toInt) (hq1 : p0.toInt ≤ 127) : Met l yX3_isAbove wsX3_isAbove ({ frames := 2, cells := 0, slots := 0, locals := 45 }) (va_Pc [.ref (c 106), .int p0, .int p1] (fun U => va_P (dC, dI) vwCl (cw_W c kc st lg ai al R) U.heap ∧ va_K (dC, dI) vwCl (cw_T kc) U ∧ gx_W U)) (vp_Si (fun r => (0 ≤ r.toInt) ∧ (r.toInt ≤ 1))) 0 0 (fun _ => False) := by
  refine Met.ofW (cc := cX3_isAbove) (maxL := 4) (ret := (some .boolean)) (by decide) rfl ?_
  intro p e s m args below meth cM s₁ B hml hv
  obtain ⟨rfl, hP, hK, hG⟩ := hv
  have hx := B.exec
  have hb := B.bytes
  have hr := B.returns
  have hts := atoms_spec (ws := wsX3_isAbove) B.pre
  have hown : s.vm.findClass RX3 = some m.cls := findClass_of_methodNamed B.named
  have hGW := hG
  have hl := lv_entry ([.ref (c 106), .int p0, .int p1]) (n := 4) (Nat.le_of_ble_eq_true rfl)
  rw [lg_entry_eq]
  generalize (lg_sl ([.ref (c 106), .int p0, .int p1]) ++ List.replicate (4 - (lg_sl ([.ref (c 106), .int p0, .int p1])).length) Slot.unset).toArray = ls at hl ⊢
  have hl : lv_has ls 4 [(0, .ref (c 106)), (1, .int p0), (2, .int p1)] := hl
  have z_m1 : (-1 : Int32).toInt = -1 := by decide
  have z_0 : (0 : Int32).toInt = 0 := by decide
  have z_1 : (1 : Int32).toInt = 1 := by decide
  have hin_X3 : ∀ w ∈ u_ws RX3 TX3 4, w ∈ wsX3_isAbove := by decide +kernel
  refine lv_aload_n hx hb dX3_isAbove_0 rfl (lv_at hl 0 rfl) ?_
  refine va_get (D := (dC, dI)) (ci := 5) (v := .ref (c 105)) (C := RX3) (T := TX3) (N := 4) hx hb hts hin_X3 hown hK hP 6 rfl rfl 2 (by decide) (hts (.fieldLink RX3 19 "BlockLog$Pruning" "story" "LBlockLog$Story;") (by decide +kernel)) (fun _ h9 => h9) rfl dX3_isAbove_1 ?_
  refine lv_aload_n hx hb dX3_isAbove_4 rfl (lv_at hl 0 rfl) ?_
  refine va_get (D := (dC, dI)) (ci := 5) (v := .ref (c 104)) (C := RX3) (T := TX3) (N := 4) hx hb hts hin_X3 hown hK hP 6 rfl rfl 1 (by decide) (hts (.fieldLink RX3 15 "BlockLog$Pruning" "rows" "LBlockLog$Rows;") (by decide +kernel)) (fun _ h9 => h9) rfl dX3_isAbove_5 ?_
  refine lv_iload_n hx hb dX3_isAbove_8 rfl (lv_at hl 1 rfl) ?_
  refine vp_callSl (va_Run.run (va_runV (As := [.int p0]) (rest := [.ref (c 105)]) ⟨hx, hb, hml, hown, hts⟩ (v_X4_c l dC dI c kc st lg ai al R p0 (show 0 ≤ (st 15).toInt by omega) (show (st 15).toInt ≤ 1 by omega) (by omega) (by omega)) (cwV 1 hts gX3_isAbove_X4_c rfl rfl rfl (by decide +kernel) ⟨Nat.le_of_ble_eq_true rfl, Nat.le_of_ble_eq_true rfl⟩) ⟨fun a U g mk q => by obtain ⟨q0, qP, qK, qG⟩ := q; exact ⟨q0, qP, va_K.moved (u := U) (U := U.calling g mk a) (Vm.Alike.refl U.vm) qK, qG.same rfl⟩, va_recv hK hP (ci := 6) (q := (RX4, TX4, 6)) rfl (q0 := 4) rfl, fun U hU hW => ⟨rfl, by rw [hU]; exact hP, va_K.moved hW.alike hK, hGW.warm hW⟩⟩ rfl rfl hl.1 rfl (lv_room (Nat.le_of_ble_eq_true rfl)) dX3_isAbove_9 ⟨Nat.le_of_ble_eq_true rfl, Nat.le_of_ble_eq_true rfl⟩)) (fun r_1 er_1 => ?_)
  refine vp_callSi (va_Run.run (va_runV (As := [.long r_1]) (rest := []) ⟨hx, hb, hml, hown, hts⟩ (v_X6_blockRow l dC dI c kc st lg ai al R r_1 (show 0 ≤ (st 25).toInt by omega) (show (st 25).toInt ≤ 128 by omega)) (cwV 1 hts gX3_isAbove_X6_blockRow rfl rfl rfl (by decide +kernel) ⟨Nat.le_of_ble_eq_true rfl, Nat.le_of_ble_eq_true rfl⟩) ⟨fun a U g mk q => by obtain ⟨q0, qP, qK⟩ := q; exact ⟨q0, qP, va_K.moved (u := U) (U := U.calling g mk a) (Vm.Alike.refl U.vm) qK⟩, va_recv hK hP (ci := 8) (q := (RX6, TX6, 12)) rfl (q0 := 5) rfl, fun U hU hW => ⟨rfl, by rw [hU]; exact hP, va_K.moved hW.alike hK⟩⟩ rfl rfl hl.1 rfl (lv_room (Nat.le_of_ble_eq_true rfl)) dX3_isAbove_12 ⟨Nat.le_of_ble_eq_true rfl, Nat.le_of_ble_eq_true rfl⟩)) (fun r_2 er_2 => ?_)
  obtain ⟨k_3, k_4⟩ := er_2
  have k_4 : r_2.toInt < (st 25).toInt := k_4
  refine lv_istore_n (lv' := [(3, .int r_2), (0, .ref (c 106)), (1, .int p0), (2, .int p1)]) hx hb dX3_isAbove_15 rfl hl (by decide) rfl (fun ls hl => ?_)
  refine lv_iload_n hx hb dX3_isAbove_16 rfl (lv_at hl 0 rfl) ?_
  refine lv_iconst (v := (-1)) hx hb dX3_isAbove_17 (by decide) ?_
  refine lv_icmp_eq (tgt := 37) hx hb dX3_isAbove_18 (by decide) (fun c_5 => ?_) (fun c_5 => ?_)
  · skip
    have ic_5 := iv_eq c_5
    refine lv_iconst (v := 0) hx hb dX3_isAbove_37 (by decide) ?_
    exact W.zret hx hb hr rfl (fun t ht hW => ⟨_, rfl, ⟨(by omega), (by omega)⟩, ht⟩) (fun q h => by cases h) dX3_isAbove_38
  · skip
    have ic_5 := iv_ne c_5
    refine lv_aload_n hx hb dX3_isAbove_21 rfl (lv_at hl 1 rfl) ?_
    refine va_get (D := (dC, dI)) (ci := 5) (v := .ref (c 104)) (C := RX3) (T := TX3) (N := 4) hx hb hts hin_X3 hown hK hP 6 rfl rfl 1 (by decide) (hts (.fieldLink RX3 15 "BlockLog$Pruning" "rows" "LBlockLog$Rows;") (by decide +kernel)) (fun _ h9 => h9) rfl dX3_isAbove_22 ?_
    refine lv_iload_n hx hb dX3_isAbove_25 rfl (lv_at hl 0 rfl) ?_
    refine vp_callSi (va_Run.run (va_runV (As := [.int r_2]) (rest := []) ⟨hx, hb, hml, hown, hts⟩ (v_X4_a l dC dI c kc st lg ai al R r_2 (show 0 ≤ (st 15).toInt by omega) (show (st 15).toInt ≤ 1 by omega) (by omega) (by omega)) (cwV 1 hts gX3_isAbove_X4_a rfl rfl rfl (by decide +kernel) ⟨Nat.le_of_ble_eq_true rfl, Nat.le_of_ble_eq_true rfl⟩) ⟨fun a U g mk q => by obtain ⟨q0, qP, qK, qG⟩ := q; exact ⟨q0, qP, va_K.moved (u := U) (U := U.calling g mk a) (Vm.Alike.refl U.vm) qK, qG.same rfl⟩, va_recv hK hP (ci := 6) (q := (RX4, TX4, 6)) rfl (q0 := 4) rfl, fun U hU hW => ⟨rfl, by rw [hU]; exact hP, va_K.moved hW.alike hK, hGW.warm hW⟩⟩ rfl rfl hl.1 rfl (lv_room (Nat.le_of_ble_eq_true rfl)) dX3_isAbove_26 ⟨Nat.le_of_ble_eq_true rfl, Nat.le_of_ble_eq_true rfl⟩)) (fun r_6 er_6 => ?_)
    refine lv_iload_n hx hb dX3_isAbove_29 rfl (lv_at hl 3 rfl) ?_
    refine lv_icmp_le (tgt := 37) hx hb dX3_isAbove_30 (by decide) (fun c_7 => ?_) (fun c_7 => ?_)
    · skip
      have ic_7 := iv_le c_7
      refine lv_iconst (v := 0) hx hb dX3_isAbove_37 (by decide) ?_
      exact W.zret hx hb hr rfl (fun t ht hW => ⟨_, rfl, ⟨(by omega), (by omega)⟩, ht⟩) (fun q h => by cases h) dX3_isAbove_38
    · skip
      have ic_7 := iv_nle c_7
      refine lv_iconst (v := 1) hx hb dX3_isAbove_33 (by decide) ?_
      refine lv_goto (tgt := 38) hx hb dX3_isAbove_34 (by decide) ?_
      exact W.zret hx hb hr rfl (fun t ht hW => ⟨_, rfl, ⟨(by omega), (by omega)⟩, ht⟩) (fun q h => by cases h) dX3_isAbove_38

set_option maxHeartbeats 4000000 in
set_option maxRecDepth 100000 in
theorem v_X3_hasKeptParent (l : Launch) (dC : Nat → ClassId) (dI : Nat → Nat → Nat) (c : Nat → Nat) (kc : Nat → ClassId) (st : Nat → Int32) (lg : Nat → Int64) (ai : Nat → Nat → Int32) (al : Nat → Nat → Int64) (R : va_W) (p0 : Int32) (p1 : Int64) (hf15a : 0 ≤ (st 15).toInt) (hf15b : (st 15).toInt ≤ 1) (hf25a : 0 ≤ (st 25).toInt) (hf25b : (st 25).toInt ≤ 128) (hq0 : 0 ≤ p0.toInt) (hq1 : p0.toInt ≤ 127) : Met l yX3_hasKeptParent wsX3_hasKeptParent ({ frames := 2, cells := 0, slots := 0, locals := 45 }) (va_Pc [.ref (c 106), .int p0, .long p1] (fun U => va_P (dC, dI) vwCl (cw_W c kc st lg ai al R) U.heap ∧ va_K (dC, dI) vwCl (cw_T kc) U ∧ gx_W U)) (vp_Si (fun r => (0 ≤ r.toInt) ∧ (r.toInt ≤ 1))) 0 0 (fun _ => False) := by
  refine Met.ofW (cc := cX3_hasKeptParent) (maxL := 7) (ret := (some .boolean)) (by decide) rfl ?_
  intro p e s m args below meth cM s₁ B hml hv
  obtain ⟨rfl, hP, hK, hG⟩ := hv
  have hx := B.exec
  have hb := B.bytes
  have hr := B.returns
  have hts := atoms_spec (ws := wsX3_hasKeptParent) B.pre
  have hown : s.vm.findClass RX3 = some m.cls := findClass_of_methodNamed B.named
  have hGW := hG
  have hl := lv_entry ([.ref (c 106), .int p0, .long p1]) (n := 7) (Nat.le_of_ble_eq_true rfl)
  rw [lg_entry_eq]
  generalize (lg_sl ([.ref (c 106), .int p0, .long p1]) ++ List.replicate (7 - (lg_sl ([.ref (c 106), .int p0, .long p1])).length) Slot.unset).toArray = ls at hl ⊢
  have hl : lv_has ls 7 [(0, .ref (c 106)), (1, .int p0), (2, .long p1)] := hl
  have z_m1 : (-1 : Int32).toInt = -1 := by decide
  have z_0 : (0 : Int32).toInt = 0 := by decide
  have z_1 : (1 : Int32).toInt = 1 := by decide
  have hin_X3 : ∀ w ∈ u_ws RX3 TX3 4, w ∈ wsX3_hasKeptParent := by decide +kernel
  refine lv_aload_n hx hb dX3_hasKeptParent_0 rfl (lv_at hl 0 rfl) ?_
  refine va_get (D := (dC, dI)) (ci := 5) (v := .ref (c 104)) (C := RX3) (T := TX3) (N := 4) hx hb hts hin_X3 hown hK hP 6 rfl rfl 1 (by decide) (hts (.fieldLink RX3 15 "BlockLog$Pruning" "rows" "LBlockLog$Rows;") (by decide +kernel)) (fun _ h9 => h9) rfl dX3_hasKeptParent_1 ?_
  refine lv_iload_n hx hb dX3_hasKeptParent_4 rfl (lv_at hl 1 rfl) ?_
  refine vp_callSl (va_Run.run (va_runV (As := [.int p0]) (rest := []) ⟨hx, hb, hml, hown, hts⟩ (v_X4_c l dC dI c kc st lg ai al R p0 (show 0 ≤ (st 15).toInt by omega) (show (st 15).toInt ≤ 1 by omega) (by omega) (by omega)) (cwV 1 hts gX3_hasKeptParent_X4_c rfl rfl rfl (by decide +kernel) ⟨Nat.le_of_ble_eq_true rfl, Nat.le_of_ble_eq_true rfl⟩) ⟨fun a U g mk q => by obtain ⟨q0, qP, qK, qG⟩ := q; exact ⟨q0, qP, va_K.moved (u := U) (U := U.calling g mk a) (Vm.Alike.refl U.vm) qK, qG.same rfl⟩, va_recv hK hP (ci := 6) (q := (RX4, TX4, 6)) rfl (q0 := 4) rfl, fun U hU hW => ⟨rfl, by rw [hU]; exact hP, va_K.moved hW.alike hK, hGW.warm hW⟩⟩ rfl rfl hl.1 rfl (lv_room (Nat.le_of_ble_eq_true rfl)) dX3_hasKeptParent_5 ⟨Nat.le_of_ble_eq_true rfl, Nat.le_of_ble_eq_true rfl⟩)) (fun r_1 er_1 => ?_)
  refine lv_lstore (lv' := [(4, .long r_1), (0, .ref (c 106)), (1, .int p0), (2, .long p1)]) hx hb dX3_hasKeptParent_8 hl (by decide) rfl (fun ls hl => ?_)
  refine lv_aload_n hx hb dX3_hasKeptParent_10 rfl (lv_at hl 1 rfl) ?_
  refine va_get (D := (dC, dI)) (ci := 5) (v := .ref (c 105)) (C := RX3) (T := TX3) (N := 4) hx hb hts hin_X3 hown hK hP 6 rfl rfl 2 (by decide) (hts (.fieldLink RX3 19 "BlockLog$Pruning" "story" "LBlockLog$Story;") (by decide +kernel)) (fun _ h9 => h9) rfl dX3_hasKeptParent_11 ?_
  refine lv_lload hx hb dX3_hasKeptParent_14 (lv_at hl 0 rfl) ?_
  refine vp_callSi (va_Run.run (va_runV (As := [.long r_1]) (rest := []) ⟨hx, hb, hml, hown, hts⟩ (v_X6_blockRow l dC dI c kc st lg ai al R r_1 (show 0 ≤ (st 25).toInt by omega) (show (st 25).toInt ≤ 128 by omega)) (cwV 1 hts gX3_hasKeptParent_X6_blockRow rfl rfl rfl (by decide +kernel) ⟨Nat.le_of_ble_eq_true rfl, Nat.le_of_ble_eq_true rfl⟩) ⟨fun a U g mk q => by obtain ⟨q0, qP, qK⟩ := q; exact ⟨q0, qP, va_K.moved (u := U) (U := U.calling g mk a) (Vm.Alike.refl U.vm) qK⟩, va_recv hK hP (ci := 8) (q := (RX6, TX6, 12)) rfl (q0 := 5) rfl, fun U hU hW => ⟨rfl, by rw [hU]; exact hP, va_K.moved hW.alike hK⟩⟩ rfl rfl hl.1 rfl (lv_room (Nat.le_of_ble_eq_true rfl)) dX3_hasKeptParent_16 ⟨Nat.le_of_ble_eq_true rfl, Nat.le_of_ble_eq_true rfl⟩)) (fun r_2 er_2 => ?_)
  obtain ⟨k_3, k_4⟩ := er_2
  have k_4 : r_2.toInt < (st 25).toInt := k_4
  refine lv_istore (lv' := [(6, .int r_2), (4, .long r_1), (0, .ref (c 106)), (1, .int p0), (2, .long p1)]) hx hb dX3_hasKeptParent_19 hl (by decide) rfl (fun ls hl => ?_)
  refine lv_lload hx hb dX3_hasKeptParent_21 (lv_at hl 1 rfl) ?_
  refine lv_lload_n hx hb dX3_hasKeptParent_23 rfl (lv_at hl 4 rfl) ?_
  refine W.lcmp hx hb dX3_hasKeptParent_24 ?_
  refine lv_topi (fun v_5 ev_5 => ?_)
  clear ev_5
  refine lv_if_eq (tgt := 44) hx hb dX3_hasKeptParent_25 (by decide) (fun c_6 => ?_) (fun c_6 => ?_)
  · skip
    have ic_6 := iv_eq c_6
    refine lv_iconst (v := 1) hx hb dX3_hasKeptParent_44 (by decide) ?_
    refine lv_goto (tgt := 49) hx hb dX3_hasKeptParent_45 (by decide) ?_
    exact W.zret hx hb hr rfl (fun t ht hW => ⟨_, rfl, ⟨(by omega), (by omega)⟩, ht⟩) (fun q h => by cases h) dX3_hasKeptParent_49
  · skip
    have ic_6 := iv_ne c_6
    refine lv_iload hx hb dX3_hasKeptParent_28 (lv_at hl 0 rfl) ?_
    refine lv_iconst (v := (-1)) hx hb dX3_hasKeptParent_30 (by decide) ?_
    refine lv_icmp_eq (tgt := 48) hx hb dX3_hasKeptParent_31 (by decide) (fun c_7 => ?_) (fun c_7 => ?_)
    · skip
      have ic_7 := iv_eq c_7
      refine lv_iconst (v := 0) hx hb dX3_hasKeptParent_48 (by decide) ?_
      exact W.zret hx hb hr rfl (fun t ht hW => ⟨_, rfl, ⟨(by omega), (by omega)⟩, ht⟩) (fun q h => by cases h) dX3_hasKeptParent_49
    · skip
      have ic_7 := iv_ne c_7
      refine lv_aload_n hx hb dX3_hasKeptParent_34 rfl (lv_at hl 2 rfl) ?_
      refine va_get (D := (dC, dI)) (ci := 5) (v := .ref (c 30)) (C := RX3) (T := TX3) (N := 4) hx hb hts hin_X3 hown hK hP 6 rfl rfl 3 (by decide) (hts (.fieldLink RX3 23 "BlockLog$Pruning" "keeps" "[Z") (by decide +kernel)) (fun _ h9 => h9) rfl dX3_hasKeptParent_35 ?_
      refine lv_iload hx hb dX3_hasKeptParent_38 (lv_at hl 0 rfl) ?_
      refine va_zald (f := ai 30) hx hb hK hP 21 13 rfl rfl (iv_in (i := r_2) (by omega) (by omega)) dX3_hasKeptParent_40 ?_
      refine lv_topi (fun v_8 ev_8 => ?_)
      have hX_prun_keeps := ev_8
      clear ev_8
      refine lv_if_eq (tgt := 48) hx hb dX3_hasKeptParent_41 (by decide) (fun c_9 => ?_) (fun c_9 => ?_)
      · skip
        have ic_9 := iv_eq c_9
        refine lv_iconst (v := 0) hx hb dX3_hasKeptParent_48 (by decide) ?_
        exact W.zret hx hb hr rfl (fun t ht hW => ⟨_, rfl, ⟨(by omega), (by omega)⟩, ht⟩) (fun q h => by cases h) dX3_hasKeptParent_49
      · skip
        have ic_9 := iv_ne c_9
        refine lv_iconst (v := 1) hx hb dX3_hasKeptParent_44 (by decide) ?_
        refine lv_goto (tgt := 49) hx hb dX3_hasKeptParent_45 (by decide) ?_
        exact W.zret hx hb hr rfl (fun t ht hW => ⟨_, rfl, ⟨(by omega), (by omega)⟩, ht⟩) (fun q h => by cases h) dX3_hasKeptParent_49

set_option maxHeartbeats 4000000 in
set_option maxRecDepth 100000 in
theorem v_X3_markGroup (l : Launch) (dC : Nat → ClassId) (dI : Nat → Nat → Nat) (c : Nat → Nat) (kc : Nat → ClassId) (st : Nat → Int32) (lg : Nat → Int64) (ai : Nat → Nat → Int32) (al : Nat → Nat → Int64) (R : va_W) (p0 : Int32) (sz : Nat) (hf15a : 0 ≤ (st 15).toInt) (hf15b : (st 15).toInt ≤ 1) (hq0 : 0 ≤ p0.toInt) (hq1 : p0.toInt ≤ 127) : Met l yX3_markGroup wsX3_markGroup ({ frames := 2, cells := 0, slots := 0, locals := 44 }) (va_Pc [.ref (c 106), .int p0] (fun U => U.heap.size = sz ∧ va_P (dC, dI) vwCl (cw_W c kc st lg ai al R) U.heap ∧ va_K (dC, dI) vwCl (cw_T kc) U ∧ va_D (fun _ => True) (cw_W c kc st lg ai al R) ∧ gx_E (va_A (cw_W c kc st lg ai al R) sz) U)) (va_Qv (fun (_ : Unit) => True) (fun _ t => ∃ (f30 : Nat → Int32), va_P (dC, dI) vwCl (cw_W c kc st lg (rU ai 30 f30) al R) t.heap) (va_A (cw_W c kc st lg ai al R) sz)) 0 0 (va_A (cw_W c kc st lg ai al R) sz) := by
  refine Met.ofW (cc := cX3_markGroup) (maxL := 4) (ret := none) (by decide) rfl ?_
  intro p e s m args below meth cM s₁ B hml hv
  obtain ⟨rfl, hsz, hP, hK, hD0, hG⟩ := hv
  have hx := B.exec
  have hb := B.bytes
  have hr := B.returns
  have hts := atoms_spec (ws := wsX3_markGroup) B.pre
  have hown : s.vm.findClass RX3 = some m.cls := findClass_of_methodNamed B.named
  have hGW := hG.1
  subst hsz
  have hD := hD0.self (sz := s.heap.size)
  generalize hAe : va_A (cw_W c kc st lg ai al R) s.heap.size = A at hD hG ⊢
  have hA : ∀ q : Nat, s.heap.size ≤ q → A q := fun q h => by rw [← hAe]; exact Or.inr h
  have hS : va_S A s.heap s.heap [] := va_S.rf
  clear hAe hD0
  have hl := lv_entry ([.ref (c 106), .int p0]) (n := 4) (Nat.le_of_ble_eq_true rfl)
  rw [lg_entry_eq]
  generalize (lg_sl ([.ref (c 106), .int p0]) ++ List.replicate (4 - (lg_sl ([.ref (c 106), .int p0])).length) Slot.unset).toArray = ls at hl ⊢
  have hl : lv_has ls 4 [(0, .ref (c 106)), (1, .int p0)] := hl
  have z_1 : (1 : Int32).toInt = 1 := by decide
  have z_128 : (128 : Int32).toInt = 128 := by decide
  have hin_X3 : ∀ w ∈ u_ws RX3 TX3 4, w ∈ wsX3_markGroup := by decide +kernel
  have main : ∀ (H : Heap) (locs : List Loc), va_P (dC, dI) vwCl (cw_W c kc st lg ai al R) H → va_S A s.heap H locs → W p l e (headSpec wsX3_markGroup ({ frames := 2, cells := 0, slots := 0, locals := 44 })).room s m ([.ref (c 106), .int p0] : List Value).toArray below meth cM H locs 0 0 (MQ below (va_Qv (fun (_ : Unit) => True) (fun _ t => ∃ (f30 : Nat → Int32), va_P (dC, dI) vwCl (cw_W c kc st lg (rU ai 30 f30) al R) t.heap) A) ([.ref (c 106), .int p0] : List Value).toArray s 0 0 A) (F0 m 0 ls []) := by
    intro H locs hP hS
    refine lv_iload_n hx hb dX3_markGroup_0 rfl (lv_at hl 1 rfl) ?_
    refine lv_aload_n hx hb dX3_markGroup_1 rfl (lv_at hl 0 rfl) ?_
    refine va_get (D := (dC, dI)) (ci := 5) (v := .ref (c 104)) (C := RX3) (T := TX3) (N := 4) hx hb hts hin_X3 hown hK hP 6 rfl rfl 1 (by decide) (hts (.fieldLink RX3 15 "BlockLog$Pruning" "rows" "LBlockLog$Rows;") (by decide +kernel)) (fun _ h9 => h9) rfl dX3_markGroup_2 ?_
    refine lv_iload_n hx hb dX3_markGroup_5 rfl (lv_at hl 1 rfl) ?_
    refine vp_callSi (va_Run.run (va_runV (As := [.int p0]) (rest := [.int p0]) ⟨hx, hb, hml, hown, hts⟩ (v_X4_b l dC dI c kc st lg ai al R p0 (show 0 ≤ (st 15).toInt by omega) (show (st 15).toInt ≤ 1 by omega) (by omega) (by omega)) (cwV 1 hts gX3_markGroup_X4_b rfl rfl rfl (by decide +kernel) ⟨Nat.le_of_ble_eq_true rfl, Nat.le_of_ble_eq_true rfl⟩) ⟨fun a U g mk q => by obtain ⟨q0, qP, qK, qG⟩ := q; exact ⟨q0, qP, va_K.moved (u := U) (U := U.calling g mk a) (Vm.Alike.refl U.vm) qK, qG.same rfl⟩, va_recv hK hP (ci := 6) (q := (RX4, TX4, 6)) rfl (q0 := 4) rfl, fun U hU hW => ⟨rfl, by rw [hU]; exact hP, va_K.moved hW.alike hK, hGW.warm hW⟩⟩ rfl rfl hl.1 rfl (lv_room (Nat.le_of_ble_eq_true rfl)) dX3_markGroup_6 ⟨Nat.le_of_ble_eq_true rfl, Nat.le_of_ble_eq_true rfl⟩)) (fun r_1 er_1 => ?_)
    have k_2 := er_1
    have k_2 : r_1.toInt = (cB (ai 7) (st 15) p0).toInt := k_2
    refine lv_iadd hx hb dX3_markGroup_9 ?_
    refine lv_topi (fun v_3 ev_3 => ?_)
    clear ev_3
    refine lv_istore_n (lv' := [(2, .int v_3), (0, .ref (c 106)), (1, .int p0)]) hx hb dX3_markGroup_10 rfl hl (by decide) rfl (fun ls hl => ?_)
    refine lv_iload_n hx hb dX3_markGroup_11 rfl (lv_at hl 2 rfl) ?_
    refine lv_istore_n (lv' := [(3, .int p0), (2, .int v_3), (0, .ref (c 106)), (1, .int p0)]) hx hb dX3_markGroup_12 rfl hl (by decide) rfl (fun ls hl => ?_)
    have loop13 : ∀ (n : Nat) (l3_13 : Int32) (a30_13 : Nat → Int32) (H : Heap) (locs : List Loc) (ls : Array Slot), (p0.toInt ≤ l3_13.toInt) → (l3_13.toInt ≤ 128) → (129 - l3_13.toInt : Int).toNat < n → va_P (dC, dI) vwCl (cw_W c kc st lg (rU ai 30 a30_13) al R) H → va_S A s.heap H locs → lv_has ls 4 [(3, .int l3_13), (2, .int v_3), (0, .ref (c 106)), (1, .int p0)] → W p l e (headSpec wsX3_markGroup ({ frames := 2, cells := 0, slots := 0, locals := 44 })).room s m ([.ref (c 106), .int p0] : List Value).toArray below meth cM H locs 0 0 (MQ below (va_Qv (fun (_ : Unit) => True) (fun _ t => ∃ (f30 : Nat → Int32), va_P (dC, dI) vwCl (cw_W c kc st lg (rU ai 30 f30) al R) t.heap) A) ([.ref (c 106), .int p0] : List Value).toArray s 0 0 A) (F0 m 13 ls []) := by
      intro n
      induction n with
      | zero => intro l3_13 a30_13 H locs ls if0_13 if1_13 hm; exact absurd hm (Nat.not_lt_zero _)
      | succ n ih13 =>
        intro l3_13 a30_13 H locs ls if0_13 if1_13 hm13 hP hS hl
        refine lv_iload_n hx hb dX3_markGroup_13 rfl (lv_at hl 0 rfl) ?_
        refine lv_iload_n hx hb dX3_markGroup_14 rfl (lv_at hl 1 rfl) ?_
        refine lv_icmp_gt (tgt := 38) hx hb dX3_markGroup_15 (by decide) (fun c_4 => ?_) (fun c_4 => ?_)
        · skip
          have ic_4 := iv_lt c_4
          exact W.vret hx hb hr (fun t ht hW => ⟨⟨(), rfl, trivial, a30_13, by rw [ht]; exact hP⟩, hS.F ht⟩) hS.2.2 dX3_markGroup_38
        · skip
          have ic_4 := iv_nlt c_4
          refine lv_iload_n hx hb dX3_markGroup_18 rfl (lv_at hl 0 rfl) ?_
          refine lv_sipush (v := 128) hx hb dX3_markGroup_19 (by decide) ?_
          refine lv_icmp_ge (tgt := 38) hx hb dX3_markGroup_22 (by decide) (fun c_5 => ?_) (fun c_5 => ?_)
          · skip
            have ic_5 := iv_le c_5
            exact W.vret hx hb hr (fun t ht hW => ⟨⟨(), rfl, trivial, a30_13, by rw [ht]; exact hP⟩, hS.F ht⟩) hS.2.2 dX3_markGroup_38
          · skip
            have ic_5 := iv_nle c_5
            refine lv_aload_n hx hb dX3_markGroup_25 rfl (lv_at hl 2 rfl) ?_
            refine va_get (D := (dC, dI)) (ci := 5) (v := .ref (c 30)) (C := RX3) (T := TX3) (N := 4) hx hb hts hin_X3 hown hK hP 6 rfl rfl 3 (by decide) (hts (.fieldLink RX3 23 "BlockLog$Pruning" "keeps" "[Z") (by decide +kernel)) (fun _ h9 => h9) rfl dX3_markGroup_26 ?_
            refine lv_iload_n hx hb dX3_markGroup_29 rfl (lv_at hl 0 rfl) ?_
            refine lv_iconst (v := 1) hx hb dX3_markGroup_30 (by decide) ?_
            refine va_zast (f := a30_13) hx hb hK hP (cw_D hD) hS 21 13 rfl rfl (iv_in (i := l3_13) (by omega) (by omega)) dX3_markGroup_31 (fun H locs hP _ hS => ?_)
            have hP : va_P (dC, dI) vwCl (cw_W c kc st lg (rU ai 30 (upd a30_13 l3_13.toNatClampNeg (vp_nar .boolean (1 : Int32)))) al R) H := cw_b30 hP
            generalize hU_prun_keeps : upd a30_13 l3_13.toNatClampNeg (vp_nar .boolean (1 : Int32)) = g_6 at hP
            obtain ⟨x_7, ex_7⟩ : ∃ z : Int32, z = l3_13 + (1) := ⟨_, rfl⟩
            refine lv_iinc (v := x_7) (lv' := [(3, .int x_7), (2, .int v_3), (0, .ref (c 106)), (1, .int p0)]) hx hb dX3_markGroup_32 hl (k := 0) rfl (by rw [ex_7]; rfl) (by decide) rfl (fun ls hl => ?_)
            have rg1 := iv_rng l3_13
            have hx_7 : x_7.toInt = l3_13.toInt + (1) := by rw [ex_7]; exact (iv_add (by omega) (by omega)).trans (by omega)
            clear ex_7
            refine lv_goto (tgt := 13) hx hb dX3_markGroup_35 (by decide) ?_
            exact ih13 x_7 g_6 _ _ _ (by omega) (by omega) (by omega) hP hS (lv_sub hl [0, 1, 2, 3] rfl)
    exact loop13 ((129 - p0.toInt : Int).toNat + 1) p0 (ai 30) _ _ _ (by omega) (by omega) (by omega) hP hS (lv_sub hl [0, 1, 2, 3] rfl)
  exact main s.heap [] hP hS

set_option maxHeartbeats 4000000 in
set_option maxRecDepth 100000 in
theorem v_X3_markBlocks (l : Launch) (dC : Nat → ClassId) (dI : Nat → Nat → Nat) (c : Nat → Nat) (kc : Nat → ClassId) (st : Nat → Int32) (lg : Nat → Int64) (ai : Nat → Nat → Int32) (al : Nat → Nat → Int64) (R : va_W) (p0 : Int32) (p1 : Int64) (sz : Nat) (hf15a : 0 ≤ (st 15).toInt) (hf15b : (st 15).toInt ≤ 1) (hf17a : 0 ≤ (st 17).toInt) (hf17b : (st 17).toInt ≤ 128) (hf25a : 0 ≤ (st 25).toInt) (hf25b : (st 25).toInt ≤ 128) : Met l yX3_markBlocks wsX3_markBlocks ({ frames := 3, cells := 0, slots := 0, locals := 71 }) (va_Pc [.ref (c 106), .int p0, .long p1] (fun U => U.heap.size = sz ∧ va_P (dC, dI) vwCl (cw_W c kc st lg ai al R) U.heap ∧ va_K (dC, dI) vwCl (cw_T kc) U ∧ va_D (fun _ => True) (cw_W c kc st lg ai al R) ∧ gx_E (va_A (cw_W c kc st lg ai al R) sz) U)) (va_Qv (fun (_ : Unit) => True) (fun _ t => ∃ (f30 : Nat → Int32), va_P (dC, dI) vwCl (cw_W c kc st lg (rU ai 30 f30) al R) t.heap) (va_A (cw_W c kc st lg ai al R) sz)) 0 0 (va_A (cw_W c kc st lg ai al R) sz) := by
  refine Met.ofW (cc := cX3_markBlocks) (maxL := 7) (ret := none) (by decide) rfl ?_
  intro p e s m args below meth cM s₁ B hml hv
  obtain ⟨rfl, hsz, hP, hK, hD0, hG⟩ := hv
  have hx := B.exec
  have hb := B.bytes
  have hr := B.returns
  have hts := atoms_spec (ws := wsX3_markBlocks) B.pre
  have hown : s.vm.findClass RX3 = some m.cls := findClass_of_methodNamed B.named
  have hGW := hG.1
  subst hsz
  have hD := hD0.self (sz := s.heap.size)
  generalize hAe : va_A (cw_W c kc st lg ai al R) s.heap.size = A at hD hG ⊢
  have hA : ∀ q : Nat, s.heap.size ≤ q → A q := fun q h => by rw [← hAe]; exact Or.inr h
  have hS : va_S A s.heap s.heap [] := va_S.rf
  clear hAe hD0
  have hl := lv_entry ([.ref (c 106), .int p0, .long p1]) (n := 7) (Nat.le_of_ble_eq_true rfl)
  rw [lg_entry_eq]
  generalize (lg_sl ([.ref (c 106), .int p0, .long p1]) ++ List.replicate (7 - (lg_sl ([.ref (c 106), .int p0, .long p1])).length) Slot.unset).toArray = ls at hl ⊢
  have hl : lv_has ls 7 [(0, .ref (c 106)), (1, .int p0), (2, .long p1)] := hl
  have z_0 : (0 : Int32).toInt = 0 := by decide
  have z_1 : (1 : Int32).toInt = 1 := by decide
  have z_128 : (128 : Int32).toInt = 128 := by decide
  have hin_X3 : ∀ w ∈ u_ws RX3 TX3 4, w ∈ wsX3_markBlocks := by decide +kernel
  have hin_X4 : ∀ w ∈ u_ws RX4 TX4 6, w ∈ wsX3_markBlocks := by decide +kernel
  have hin_X6 : ∀ w ∈ u_ws RX6 TX6 12, w ∈ wsX3_markBlocks := by decide +kernel
  have main : ∀ (H : Heap) (locs : List Loc), va_P (dC, dI) vwCl (cw_W c kc st lg ai al R) H → va_S A s.heap H locs → W p l e (headSpec wsX3_markBlocks ({ frames := 3, cells := 0, slots := 0, locals := 71 })).room s m ([.ref (c 106), .int p0, .long p1] : List Value).toArray below meth cM H locs 0 0 (MQ below (va_Qv (fun (_ : Unit) => True) (fun _ t => ∃ (f30 : Nat → Int32), va_P (dC, dI) vwCl (cw_W c kc st lg (rU ai 30 f30) al R) t.heap) A) ([.ref (c 106), .int p0, .long p1] : List Value).toArray s 0 0 A) (F0 m 0 ls []) := by
    intro H locs hP hS
    refine lv_iconst (v := 1) hx hb dX3_markBlocks_0 (by decide) ?_
    refine lv_istore (lv' := [(4, .int (1 : Int32)), (0, .ref (c 106)), (1, .int p0), (2, .long p1)]) hx hb dX3_markBlocks_1 hl (by decide) rfl (fun ls hl => ?_)
    refine lv_iconst (v := 0) hx hb dX3_markBlocks_3 (by decide) ?_
    refine lv_istore (lv' := [(5, .int (0 : Int32)), (4, .int (1 : Int32)), (0, .ref (c 106)), (1, .int p0), (2, .long p1)]) hx hb dX3_markBlocks_4 hl (by decide) rfl (fun ls hl => ?_)
    have loop6 : ∀ (n : Nat) (l5_6 : Int32) (l4_6 : Int32) (a30_6 : Nat → Int32) (H : Heap) (locs : List Loc) (ls : Array Slot), (0 ≤ l4_6.toInt) → (l4_6.toInt ≤ 1) → (0 ≤ l5_6.toInt) → (l5_6.toInt ≤ 128) → (128 - l5_6.toInt : Int).toNat < n → va_P (dC, dI) vwCl (cw_W c kc st lg (rU ai 30 a30_6) al R) H → va_S A s.heap H locs → lv_has ls 7 [(5, .int l5_6), (4, .int l4_6), (0, .ref (c 106)), (1, .int p0), (2, .long p1)] → W p l e (headSpec wsX3_markBlocks ({ frames := 3, cells := 0, slots := 0, locals := 71 })).room s m ([.ref (c 106), .int p0, .long p1] : List Value).toArray below meth cM H locs 0 0 (MQ below (va_Qv (fun (_ : Unit) => True) (fun _ t => ∃ (f30 : Nat → Int32), va_P (dC, dI) vwCl (cw_W c kc st lg (rU ai 30 f30) al R) t.heap) A) ([.ref (c 106), .int p0, .long p1] : List Value).toArray s 0 0 A) (F0 m 6 ls []) := by
      intro n
      induction n with
      | zero => intro l5_6 l4_6 a30_6 H locs ls if0_6 if1_6 if2_6 if3_6 hm; exact absurd hm (Nat.not_lt_zero _)
      | succ n ih6 =>
        intro l5_6 l4_6 a30_6 H locs ls if0_6 if1_6 if2_6 if3_6 hm6 hP hS hl
        refine lv_iload hx hb dX3_markBlocks_6 (lv_at hl 1 rfl) ?_
        refine lv_if_eq (tgt := 104) hx hb dX3_markBlocks_8 (by decide) (fun c_1 => ?_) (fun c_1 => ?_)
        · skip
          have ic_1 := iv_eq c_1
          exact W.vret hx hb hr (fun t ht hW => ⟨⟨(), rfl, trivial, a30_6, by rw [ht]; exact hP⟩, hS.F ht⟩) hS.2.2 dX3_markBlocks_104
        · skip
          have ic_1 := iv_ne c_1
          refine lv_iload hx hb dX3_markBlocks_11 (lv_at hl 0 rfl) ?_
          refine lv_sipush (v := 128) hx hb dX3_markBlocks_13 (by decide) ?_
          refine lv_icmp_ge (tgt := 104) hx hb dX3_markBlocks_16 (by decide) (fun c_2 => ?_) (fun c_2 => ?_)
          · skip
            have ic_2 := iv_le c_2
            exact W.vret hx hb hr (fun t ht hW => ⟨⟨(), rfl, trivial, a30_6, by rw [ht]; exact hP⟩, hS.F ht⟩) hS.2.2 dX3_markBlocks_104
          · skip
            have ic_2 := iv_nle c_2
            refine lv_iconst (v := 0) hx hb dX3_markBlocks_19 (by decide) ?_
            refine lv_istore (lv' := [(4, .int (0 : Int32)), (5, .int l5_6), (0, .ref (c 106)), (1, .int p0), (2, .long p1)]) hx hb dX3_markBlocks_20 hl (by decide) rfl (fun ls hl => ?_)
            refine lv_iconst (v := 0) hx hb dX3_markBlocks_22 (by decide) ?_
            refine lv_istore (lv' := [(6, .int (0 : Int32)), (4, .int (0 : Int32)), (5, .int l5_6), (0, .ref (c 106)), (1, .int p0), (2, .long p1)]) hx hb dX3_markBlocks_23 hl (by decide) rfl (fun ls hl => ?_)
            have loop25 : ∀ (n : Nat) (l6_25 : Int32) (l4_25 : Int32) (a30_25 : Nat → Int32) (H : Heap) (locs : List Loc) (ls : Array Slot), (0 ≤ l4_25.toInt) → (l4_25.toInt ≤ 1) → (0 ≤ l6_25.toInt) → (l6_25.toInt ≤ (st 17).toInt) → ((st 17).toInt - l6_25.toInt : Int).toNat < n → va_P (dC, dI) vwCl (cw_W c kc st lg (rU ai 30 a30_25) al R) H → va_S A s.heap H locs → lv_has ls 7 [(6, .int l6_25), (4, .int l4_25), (5, .int l5_6), (0, .ref (c 106)), (1, .int p0), (2, .long p1)] → W p l e (headSpec wsX3_markBlocks ({ frames := 3, cells := 0, slots := 0, locals := 71 })).room s m ([.ref (c 106), .int p0, .long p1] : List Value).toArray below meth cM H locs 0 0 (MQ below (va_Qv (fun (_ : Unit) => True) (fun _ t => ∃ (f30 : Nat → Int32), va_P (dC, dI) vwCl (cw_W c kc st lg (rU ai 30 f30) al R) t.heap) A) ([.ref (c 106), .int p0, .long p1] : List Value).toArray s 0 0 A) (F0 m 25 ls []) := by
              intro n
              induction n with
              | zero => intro l6_25 l4_25 a30_25 H locs ls if0_25 if1_25 if2_25 if3_25 hm; exact absurd hm (Nat.not_lt_zero _)
              | succ n ih25 =>
                intro l6_25 l4_25 a30_25 H locs ls if0_25 if1_25 if2_25 if3_25 hm25 hP hS hl
                refine lv_iload hx hb dX3_markBlocks_25 (lv_at hl 0 rfl) ?_
                refine lv_aload_n hx hb dX3_markBlocks_27 rfl (lv_at hl 3 rfl) ?_
                refine va_get (D := (dC, dI)) (ci := 5) (v := .ref (c 104)) (C := RX3) (T := TX3) (N := 4) hx hb hts hin_X3 hown hK hP 6 rfl rfl 1 (by decide) (hts (.fieldLink RX3 15 "BlockLog$Pruning" "rows" "LBlockLog$Rows;") (by decide +kernel)) (fun _ h9 => h9) rfl dX3_markBlocks_28 ?_
                refine va_getN (D := (dC, dI)) (ci := 6) (v := .int (st 17)) (C := RX4) (T := TX4) (N := 6) hx hb hts hin_X4 hown hK hP 4 rfl rfl 4 (by decide) (va_Nw.use rfl (hGW.1 ("BlockLog$Pruning", 33, "BlockLog$Rows", "count", "I", "BlockLog") (by decide +kernel))) (fun _ h9 => h9) rfl dX3_markBlocks_31 ?_
                refine lv_icmp_ge (tgt := 98) hx hb dX3_markBlocks_34 (by decide) (fun c_3 => ?_) (fun c_3 => ?_)
                · skip
                  have ic_3 := iv_le c_3
                  obtain ⟨x_4, ex_4⟩ : ∃ z : Int32, z = l5_6 + (1) := ⟨_, rfl⟩
                  refine lv_iinc (v := x_4) (lv' := [(5, .int x_4), (6, .int l6_25), (4, .int l4_25), (0, .ref (c 106)), (1, .int p0), (2, .long p1)]) hx hb dX3_markBlocks_98 hl (k := 2) rfl (by rw [ex_4]; rfl) (by decide) rfl (fun ls hl => ?_)
                  have rg1 := iv_rng l5_6
                  have hx_4 : x_4.toInt = l5_6.toInt + (1) := by rw [ex_4]; exact (iv_add (by omega) (by omega)).trans (by omega)
                  clear ex_4
                  refine lv_goto (tgt := 6) hx hb dX3_markBlocks_101 (by decide) ?_
                  exact ih6 x_4 l4_25 a30_25 _ _ _ (by omega) (by omega) (by omega) (by omega) (by omega) hP hS (lv_sub hl [0, 2, 3, 4, 5] rfl)
                · skip
                  have ic_3 := iv_nle c_3
                  refine lv_aload_n hx hb dX3_markBlocks_37 rfl (lv_at hl 3 rfl) ?_
                  refine va_get (D := (dC, dI)) (ci := 5) (v := .ref (c 105)) (C := RX3) (T := TX3) (N := 4) hx hb hts hin_X3 hown hK hP 6 rfl rfl 2 (by decide) (hts (.fieldLink RX3 19 "BlockLog$Pruning" "story" "LBlockLog$Story;") (by decide +kernel)) (fun _ h9 => h9) rfl dX3_markBlocks_38 ?_
                  refine va_getN (D := (dC, dI)) (ci := 8) (v := .ref (c 20)) (C := RX6) (T := TX6) (N := 12) hx hb hts hin_X6 hown hK hP 5 rfl rfl 2 (by decide) (va_Nw.use rfl (hGW.1 ("BlockLog$Pruning", 72, "BlockLog$Story", "isBlock", "[Z", "BlockLog") (by decide +kernel))) (fun _ h9 => h9) rfl dX3_markBlocks_41 ?_
                  refine lv_iload hx hb dX3_markBlocks_44 (lv_at hl 0 rfl) ?_
                  refine va_zald (f := ai 20) hx hb hK hP 16 8 rfl rfl (iv_in (i := l6_25) (by omega) (by omega)) dX3_markBlocks_46 ?_
                  refine lv_topi (fun v_5 ev_5 => ?_)
                  clear ev_5
                  refine lv_if_eq (tgt := 92) hx hb dX3_markBlocks_47 (by decide) (fun c_6 => ?_) (fun c_6 => ?_)
                  · skip
                    have ic_6 := iv_eq c_6
                    obtain ⟨x_7, ex_7⟩ : ∃ z : Int32, z = l6_25 + (1) := ⟨_, rfl⟩
                    refine lv_iinc (v := x_7) (lv' := [(6, .int x_7), (4, .int l4_25), (5, .int l5_6), (0, .ref (c 106)), (1, .int p0), (2, .long p1)]) hx hb dX3_markBlocks_92 hl (k := 0) rfl (by rw [ex_7]; rfl) (by decide) rfl (fun ls hl => ?_)
                    have rg2 := iv_rng l6_25
                    have hx_7 : x_7.toInt = l6_25.toInt + (1) := by rw [ex_7]; exact (iv_add (by omega) (by omega)).trans (by omega)
                    clear ex_7
                    refine lv_goto (tgt := 25) hx hb dX3_markBlocks_95 (by decide) ?_
                    exact ih25 x_7 l4_25 a30_25 _ _ _ (by omega) (by omega) (by omega) (by omega) (by omega) hP hS (lv_sub hl [0, 1, 2, 3, 4, 5] rfl)
                  · skip
                    have ic_6 := iv_ne c_6
                    refine lv_aload_n hx hb dX3_markBlocks_50 rfl (lv_at hl 3 rfl) ?_
                    refine va_get (D := (dC, dI)) (ci := 5) (v := .ref (c 30)) (C := RX3) (T := TX3) (N := 4) hx hb hts hin_X3 hown hK hP 6 rfl rfl 3 (by decide) (hts (.fieldLink RX3 23 "BlockLog$Pruning" "keeps" "[Z") (by decide +kernel)) (fun _ h9 => h9) rfl dX3_markBlocks_51 ?_
                    refine lv_iload hx hb dX3_markBlocks_54 (lv_at hl 0 rfl) ?_
                    refine va_zald (f := a30_25) hx hb hK hP 21 13 rfl rfl (iv_in (i := l6_25) (by omega) (by omega)) dX3_markBlocks_56 ?_
                    refine lv_topi (fun v_8 ev_8 => ?_)
                    have hX_prun_keeps := ev_8
                    clear ev_8
                    refine lv_if_ne (tgt := 92) hx hb dX3_markBlocks_57 (by decide) (fun c_9 => ?_) (fun c_9 => ?_)
                    · skip
                      have ic_9 := iv_ne c_9
                      obtain ⟨x_10, ex_10⟩ : ∃ z : Int32, z = l6_25 + (1) := ⟨_, rfl⟩
                      refine lv_iinc (v := x_10) (lv' := [(6, .int x_10), (4, .int l4_25), (5, .int l5_6), (0, .ref (c 106)), (1, .int p0), (2, .long p1)]) hx hb dX3_markBlocks_92 hl (k := 0) rfl (by rw [ex_10]; rfl) (by decide) rfl (fun ls hl => ?_)
                      have rg3 := iv_rng l6_25
                      have hx_10 : x_10.toInt = l6_25.toInt + (1) := by rw [ex_10]; exact (iv_add (by omega) (by omega)).trans (by omega)
                      clear ex_10
                      refine lv_goto (tgt := 25) hx hb dX3_markBlocks_95 (by decide) ?_
                      exact ih25 x_10 l4_25 a30_25 _ _ _ (by omega) (by omega) (by omega) (by omega) (by omega) hP hS (lv_sub hl [0, 1, 2, 3, 4, 5] rfl)
                    · skip
                      have ic_9 := iv_eq c_9
                      refine lv_aload_n hx hb dX3_markBlocks_60 rfl (lv_at hl 3 rfl) ?_
                      refine va_get (D := (dC, dI)) (ci := 5) (v := .ref (c 104)) (C := RX3) (T := TX3) (N := 4) hx hb hts hin_X3 hown hK hP 6 rfl rfl 1 (by decide) (hts (.fieldLink RX3 15 "BlockLog$Pruning" "rows" "LBlockLog$Rows;") (by decide +kernel)) (fun _ h9 => h9) rfl dX3_markBlocks_61 ?_
                      refine lv_iload hx hb dX3_markBlocks_64 (lv_at hl 0 rfl) ?_
                      refine vp_callSi (va_Run.run (va_runV (As := [.int l6_25]) (rest := []) ⟨hx, hb, hml, hown, hts⟩ (v_X4_a l dC dI c kc st lg (rU ai 30 a30_25) al R l6_25 (show 0 ≤ (st 15).toInt by omega) (show (st 15).toInt ≤ 1 by omega) (by omega) (by omega)) (cwV 1 hts gX3_markBlocks_X4_a rfl rfl rfl (by decide +kernel) ⟨Nat.le_of_ble_eq_true rfl, Nat.le_of_ble_eq_true rfl⟩) ⟨fun a U g mk q => by obtain ⟨q0, qP, qK, qG⟩ := q; exact ⟨q0, qP, va_K.moved (u := U) (U := U.calling g mk a) (Vm.Alike.refl U.vm) qK, qG.same rfl⟩, va_recv hK hP (ci := 6) (q := (RX4, TX4, 6)) rfl (q0 := 4) rfl, fun U hU hW => ⟨rfl, by rw [hU]; exact hP, va_K.moved hW.alike hK, hGW.warm hW⟩⟩ rfl rfl hl.1 rfl (lv_room (Nat.le_of_ble_eq_true rfl)) dX3_markBlocks_66 ⟨Nat.le_of_ble_eq_true rfl, Nat.le_of_ble_eq_true rfl⟩)) (fun r_11 er_11 => ?_)
                      refine lv_iload_n hx hb dX3_markBlocks_69 rfl (lv_at hl 4 rfl) ?_
                      refine lv_icmp_le (tgt := 92) hx hb dX3_markBlocks_70 (by decide) (fun c_12 => ?_) (fun c_12 => ?_)
                      · skip
                        have ic_12 := iv_le c_12
                        obtain ⟨x_13, ex_13⟩ : ∃ z : Int32, z = l6_25 + (1) := ⟨_, rfl⟩
                        refine lv_iinc (v := x_13) (lv' := [(6, .int x_13), (4, .int l4_25), (5, .int l5_6), (0, .ref (c 106)), (1, .int p0), (2, .long p1)]) hx hb dX3_markBlocks_92 hl (k := 0) rfl (by rw [ex_13]; rfl) (by decide) rfl (fun ls hl => ?_)
                        have rg4 := iv_rng l6_25
                        have hx_13 : x_13.toInt = l6_25.toInt + (1) := by rw [ex_13]; exact (iv_add (by omega) (by omega)).trans (by omega)
                        clear ex_13
                        refine lv_goto (tgt := 25) hx hb dX3_markBlocks_95 (by decide) ?_
                        exact ih25 x_13 l4_25 a30_25 _ _ _ (by omega) (by omega) (by omega) (by omega) (by omega) hP hS (lv_sub hl [0, 1, 2, 3, 4, 5] rfl)
                      · skip
                        have ic_12 := iv_nle c_12
                        refine lv_aload_n hx hb dX3_markBlocks_73 rfl (lv_at hl 3 rfl) ?_
                        refine lv_iload hx hb dX3_markBlocks_74 (lv_at hl 0 rfl) ?_
                        refine lv_lload_n hx hb dX3_markBlocks_76 rfl (lv_at hl 5 rfl) ?_
                        refine vp_callSi (va_Run.run (va_runV (As := [.int l6_25, .long p1]) (rest := []) ⟨hx, hb, hml, hown, hts⟩ (v_X3_hasKeptParent l dC dI c kc st lg (rU ai 30 a30_25) al R l6_25 p1 (show 0 ≤ (st 15).toInt by omega) (show (st 15).toInt ≤ 1 by omega) (show 0 ≤ (st 25).toInt by omega) (show (st 25).toInt ≤ 128 by omega) (by omega) (by omega)) (cwV 2 hts gX3_markBlocks_X3_hasKeptParent rfl rfl rfl (by decide +kernel) ⟨Nat.le_of_ble_eq_true rfl, Nat.le_of_ble_eq_true rfl⟩) ⟨fun a U g mk q => by obtain ⟨q0, qP, qK, qG⟩ := q; exact ⟨q0, qP, va_K.moved (u := U) (U := U.calling g mk a) (Vm.Alike.refl U.vm) qK, qG.same rfl⟩, va_recv hK hP (ci := 5) (q := (RX3, TX3, 4)) rfl (q0 := 6) rfl, fun U hU hW => ⟨rfl, by rw [hU]; exact hP, va_K.moved hW.alike hK, hGW.warm hW⟩⟩ rfl rfl hl.1 rfl (lv_room (Nat.le_of_ble_eq_true rfl)) dX3_markBlocks_77 ⟨Nat.le_of_ble_eq_true rfl, Nat.le_of_ble_eq_true rfl⟩)) (fun r_14 er_14 => ?_)
                        obtain ⟨k_15, k_16⟩ := er_14
                        rcases iv_01 (a := r_14) (by omega) (by omega) with b_17 | b_17
                        · skip
                          have ib_17 := iv_eq b_17
                          rw [b_17]
                          refine lv_if_eq (tgt := 92) hx hb dX3_markBlocks_80 (by decide) (fun c_18 => ?_) (fun c_18 => ?_)
                          · skip
                            have ic_18 := iv_eq c_18
                            obtain ⟨x_19, ex_19⟩ : ∃ z : Int32, z = l6_25 + (1) := ⟨_, rfl⟩
                            refine lv_iinc (v := x_19) (lv' := [(6, .int x_19), (4, .int l4_25), (5, .int l5_6), (0, .ref (c 106)), (1, .int p0), (2, .long p1)]) hx hb dX3_markBlocks_92 hl (k := 0) rfl (by rw [ex_19]; rfl) (by decide) rfl (fun ls hl => ?_)
                            have rg5 := iv_rng l6_25
                            have hx_19 : x_19.toInt = l6_25.toInt + (1) := by rw [ex_19]; exact (iv_add (by omega) (by omega)).trans (by omega)
                            clear ex_19
                            refine lv_goto (tgt := 25) hx hb dX3_markBlocks_95 (by decide) ?_
                            exact ih25 x_19 l4_25 a30_25 _ _ _ (by omega) (by omega) (by omega) (by omega) (by omega) hP hS (lv_sub hl [0, 1, 2, 3, 4, 5] rfl)
                          · skip
                            have ic_18 := iv_ne c_18
                            exfalso
                            omega
                        · skip
                          have ib_17 := iv_eq b_17
                          rw [b_17]
                          refine lv_if_eq (tgt := 92) hx hb dX3_markBlocks_80 (by decide) (fun c_20 => ?_) (fun c_20 => ?_)
                          · skip
                            have ic_20 := iv_eq c_20
                            exfalso
                            omega
                          · skip
                            have ic_20 := iv_ne c_20
                            refine lv_aload_n hx hb dX3_markBlocks_83 rfl (lv_at hl 3 rfl) ?_
                            refine lv_iload hx hb dX3_markBlocks_84 (lv_at hl 0 rfl) ?_
                            have hFc := vfree ((cw_D hD : va_D A (cw_W c kc st lg (rU ai 30 a30_25) al R)) : va_D A (cw_W c kc st lg (rU ai 30 a30_25) al R)) hS hA
                            refine va_callv (va_runV (As := [.int l6_25]) (rest := []) ⟨hx, hb, hml, hown, hts⟩ (v_X3_markGroup l dC dI c kc st lg (rU ai 30 a30_25) al R l6_25 _ (show 0 ≤ (st 15).toInt by omega) (show (st 15).toInt ≤ 1 by omega) (by omega) (by omega)) (cwV 1 hts gX3_markBlocks_X3_markGroup rfl rfl rfl (by decide +kernel) ⟨Nat.le_of_ble_eq_true rfl, Nat.le_of_ble_eq_true rfl⟩) ⟨fun a U g mk q => by obtain ⟨q0, q1, qP, qK, qD, qG⟩ := q; exact ⟨q0, q1, qP, va_K.moved (u := U) (U := U.calling g mk a) (Vm.Alike.refl U.vm) qK, qD, qG.same rfl rfl⟩, va_recv hK hP (ci := 5) (q := (RX3, TX3, 4)) rfl (q0 := 6) rfl, fun U hU hW => ⟨rfl, by rw [hU], by rw [hU]; exact hP, va_K.moved hW.alike hK, ((cw_D hD : va_D A (cw_W c kc st lg (rU ai 30 a30_25) al R))).weaken (fun _ _ _ _ => trivial), hG.go hW hU hS hFc⟩⟩ rfl rfl hl.1 rfl (lv_room (Nat.le_of_ble_eq_true rfl)) dX3_markBlocks_86 ⟨Nat.le_of_ble_eq_true rfl, Nat.le_of_ble_eq_true rfl⟩) hS (fun q _ h => hFc q h) hFc (fun ur_21 t H1 locs ht hvm er_21 hB hz1 hk1 hS => ?_)
                            obtain ⟨f30_21, hP1⟩ := hB
                            rw [ht] at hP1
                            clear hFc hz1 hk1 hvm hP
                            subst ht
                            have hP := hP1
                            clear hP1
                            generalize t.heap = H at hP hS ⊢
                            have hP : va_P (dC, dI) vwCl (cw_W c kc st lg (rU ai 30 f30_21) al R) H := hP
                            refine lv_iconst (v := 1) hx hb dX3_markBlocks_89 (by decide) ?_
                            refine lv_istore (lv' := [(4, .int (1 : Int32)), (6, .int l6_25), (5, .int l5_6), (0, .ref (c 106)), (1, .int p0), (2, .long p1)]) hx hb dX3_markBlocks_90 hl (by decide) rfl (fun ls hl => ?_)
                            obtain ⟨x_22, ex_22⟩ : ∃ z : Int32, z = l6_25 + (1) := ⟨_, rfl⟩
                            refine lv_iinc (v := x_22) (lv' := [(6, .int x_22), (4, .int (1 : Int32)), (5, .int l5_6), (0, .ref (c 106)), (1, .int p0), (2, .long p1)]) hx hb dX3_markBlocks_92 hl (k := 1) rfl (by rw [ex_22]; rfl) (by decide) rfl (fun ls hl => ?_)
                            have rg6 := iv_rng l6_25
                            have hx_22 : x_22.toInt = l6_25.toInt + (1) := by rw [ex_22]; exact (iv_add (by omega) (by omega)).trans (by omega)
                            clear ex_22
                            refine lv_goto (tgt := 25) hx hb dX3_markBlocks_95 (by decide) ?_
                            exact ih25 x_22 (1 : Int32) f30_21 _ _ _ (by omega) (by omega) (by omega) (by omega) (by omega) hP hS (lv_sub hl [0, 1, 2, 3, 4, 5] rfl)
            exact loop25 (((st 17).toInt - 0 : Int).toNat + 1) (0 : Int32) (0 : Int32) a30_6 _ _ _ (by omega) (by omega) (by omega) (by omega) (by omega) hP hS (lv_sub hl [0, 1, 2, 3, 4, 5] rfl)
    exact loop6 ((128 - 0 : Int).toNat + 1) (0 : Int32) (1 : Int32) (ai 30) _ _ _ (by omega) (by omega) (by omega) (by omega) (by omega) hP hS (lv_sub hl [0, 1, 2, 3, 4] rfl)
  exact main s.heap [] hP hS

set_option maxHeartbeats 4000000 in
set_option maxRecDepth 100000 in
theorem v_X3_mark (l : Launch) (dC : Nat → ClassId) (dI : Nat → Nat → Nat) (c : Nat → Nat) (kc : Nat → ClassId) (st : Nat → Int32) (lg : Nat → Int64) (ai : Nat → Nat → Int32) (al : Nat → Nat → Int64) (R : va_W) (p0 : Int32) (sz : Nat) (hf15a : 0 ≤ (st 15).toInt) (hf15b : (st 15).toInt ≤ 1) (hf17a : 0 ≤ (st 17).toInt) (hf17b : (st 17).toInt ≤ 128) (hf25a : 0 ≤ (st 25).toInt) (hf25b : (st 25).toInt ≤ 128) (hf26a : 0 ≤ (st 26).toInt) (hf26b : (st 26).toInt ≤ 128) (hf27a : -1 ≤ (st 27).toInt) (hf27b : (st 27).toInt ≤ 127) (hf28a : 0 ≤ (st 28).toInt) (hf28b : (st 28).toInt ≤ 1) (hR23 : aR (ai 23) 128 (0) 127) : Met l yX3_mark wsX3_mark ({ frames := 4, cells := 0, slots := 0, locals := 97 }) (va_Pc [.ref (c 106), .int p0] (fun U => U.heap.size = sz ∧ va_P (dC, dI) vwCl (cw_W c kc st lg ai al R) U.heap ∧ va_K (dC, dI) vwCl (cw_T kc) U ∧ va_D (fun _ => True) (cw_W c kc st lg ai al R) ∧ gx_E (va_A (cw_W c kc st lg ai al R) sz) U)) (va_Qi (fun r (u : Int32) => r = u) (fun u t => ∃ (f30 : Nat → Int32) (g24 : Nat → Int64), (u.toInt = 1 + (cntL g24 16 : Int) + (cntZ f30 (st 17).toInt.toNat : Int)) ∧ va_P (dC, dI) vwCl (cw_W c kc st lg (rU ai 30 f30) (rU al 24 g24) R) t.heap) (va_A (cw_W c kc st lg ai al R) sz)) 0 0 (va_A (cw_W c kc st lg ai al R) sz) := by
  refine Met.ofW (cc := cX3_mark) (maxL := 4) (ret := (some .int)) (by decide) rfl ?_
  intro p e s m args below meth cM s₁ B hml hv
  obtain ⟨rfl, hsz, hP, hK, hD0, hG⟩ := hv
  have hx := B.exec
  have hb := B.bytes
  have hr := B.returns
  have hts := atoms_spec (ws := wsX3_mark) B.pre
  have hown : s.vm.findClass RX3 = some m.cls := findClass_of_methodNamed B.named
  have hGW := hG.1
  subst hsz
  have hD := hD0.self (sz := s.heap.size)
  generalize hAe : va_A (cw_W c kc st lg ai al R) s.heap.size = A at hD hG ⊢
  have hA : ∀ q : Nat, s.heap.size ≤ q → A q := fun q h => by rw [← hAe]; exact Or.inr h
  have hS : va_S A s.heap s.heap [] := va_S.rf
  clear hAe hD0
  have hl := lv_entry ([.ref (c 106), .int p0]) (n := 4) (Nat.le_of_ble_eq_true rfl)
  rw [lg_entry_eq]
  generalize (lg_sl ([.ref (c 106), .int p0]) ++ List.replicate (4 - (lg_sl ([.ref (c 106), .int p0])).length) Slot.unset).toArray = ls at hl ⊢
  have hl : lv_has ls 4 [(0, .ref (c 106)), (1, .int p0)] := hl
  have z_0 : (0 : Int32).toInt = 0 := by decide
  have z_1 : (1 : Int32).toInt = 1 := by decide
  have hin_X3 : ∀ w ∈ u_ws RX3 TX3 4, w ∈ wsX3_mark := by decide +kernel
  have hin_X4 : ∀ w ∈ u_ws RX4 TX4 6, w ∈ wsX3_mark := by decide +kernel
  have hin_X6 : ∀ w ∈ u_ws RX6 TX6 12, w ∈ wsX3_mark := by decide +kernel
  have main : ∀ (H : Heap) (locs : List Loc), va_P (dC, dI) vwCl (cw_W c kc st lg ai al R) H → va_S A s.heap H locs → W p l e (headSpec wsX3_mark ({ frames := 4, cells := 0, slots := 0, locals := 97 })).room s m ([.ref (c 106), .int p0] : List Value).toArray below meth cM H locs 0 0 (MQ below (va_Qi (fun r (u : Int32) => r = u) (fun u t => ∃ (f30 : Nat → Int32) (g24 : Nat → Int64), (u.toInt = 1 + (cntL g24 16 : Int) + (cntZ f30 (st 17).toInt.toNat : Int)) ∧ va_P (dC, dI) vwCl (cw_W c kc st lg (rU ai 30 f30) (rU al 24 g24) R) t.heap) A) ([.ref (c 106), .int p0] : List Value).toArray s 0 0 A) (F0 m 0 ls []) := by
    intro H locs hP hS
    refine lv_aload_n hx hb dX3_mark_0 rfl (lv_at hl 0 rfl) ?_
    refine va_get (D := (dC, dI)) (ci := 5) (v := .ref (c 105)) (C := RX3) (T := TX3) (N := 4) hx hb hts hin_X3 hown hK hP 6 rfl rfl 2 (by decide) (hts (.fieldLink RX3 19 "BlockLog$Pruning" "story" "LBlockLog$Story;") (by decide +kernel)) (fun _ h9 => h9) rfl dX3_mark_1 ?_
    refine lv_iload_n hx hb dX3_mark_4 rfl (lv_at hl 1 rfl) ?_
    have hFc := vfree ((cw_D hD : va_D A (cw_W c kc st lg ai al R)) : va_D A (cw_W c kc st lg ai al R)) hS hA
    refine va_callv (va_runV (As := [.int p0]) (rest := []) ⟨hx, hb, hml, hown, hts⟩ (v_X6_drawVersion l dC dI c kc st lg ai al R p0 _ (show 0 ≤ (st 15).toInt by omega) (show (st 15).toInt ≤ 1 by omega) (show 0 ≤ (st 25).toInt by omega) (show (st 25).toInt ≤ 128 by omega) (show 0 ≤ (st 26).toInt by omega) (show (st 26).toInt ≤ 128 by omega) (show 0 ≤ (st 28).toInt by omega) (show (st 28).toInt ≤ 1 by omega) (show aR (ai 23) 128 (0) 127 from hR23)) (cwV 1 hts gX3_mark_X6_drawVersion rfl rfl rfl (by decide +kernel) ⟨Nat.le_of_ble_eq_true rfl, Nat.le_of_ble_eq_true rfl⟩) ⟨fun a U g mk q => by obtain ⟨q0, q1, qP, qK, qD, qG⟩ := q; exact ⟨q0, q1, qP, va_K.moved (u := U) (U := U.calling g mk a) (Vm.Alike.refl U.vm) qK, qD, qG.same rfl rfl⟩, va_recv hK hP (ci := 8) (q := (RX6, TX6, 12)) rfl (q0 := 5) rfl, fun U hU hW => ⟨rfl, by rw [hU], by rw [hU]; exact hP, va_K.moved hW.alike hK, ((cw_D hD : va_D A (cw_W c kc st lg ai al R))).weaken (fun _ _ _ _ => trivial), hG.go hW hU hS hFc⟩⟩ rfl rfl hl.1 rfl (lv_room (Nat.le_of_ble_eq_true rfl)) dX3_mark_5 ⟨Nat.le_of_ble_eq_true rfl, Nat.le_of_ble_eq_true rfl⟩) hS (fun q _ h => hFc q h) hFc (fun ur_1 t H1 locs ht hvm er_1 hB hz1 hk1 hS => ?_)
    obtain ⟨g24_1, hP1⟩ := hB
    rw [ht] at hP1
    clear hFc hz1 hk1 hvm hP
    subst ht
    have hP := hP1
    clear hP1
    generalize t.heap = H at hP hS ⊢
    have hP : va_P (dC, dI) vwCl (cw_W c kc st lg ai (rU al 24 g24_1) R) H := hP
    refine lv_iconst (v := 0) hx hb dX3_mark_8 (by decide) ?_
    refine lv_istore_n (lv' := [(2, .int (0 : Int32)), (0, .ref (c 106)), (1, .int p0)]) hx hb dX3_mark_9 rfl hl (by decide) rfl (fun ls hl => ?_)
    have loop10 : ∀ (n : Nat) (l2_10 : Int32) (a30_10 : Nat → Int32) (H : Heap) (locs : List Loc) (ls : Array Slot), (0 ≤ l2_10.toInt) → (l2_10.toInt ≤ (st 17).toInt) → ((st 17).toInt - l2_10.toInt : Int).toNat < n → va_P (dC, dI) vwCl (cw_W c kc st lg (rU ai 30 a30_10) (rU al 24 g24_1) R) H → va_S A s.heap H locs → lv_has ls 4 [(2, .int l2_10), (0, .ref (c 106)), (1, .int p0)] → W p l e (headSpec wsX3_mark ({ frames := 4, cells := 0, slots := 0, locals := 97 })).room s m ([.ref (c 106), .int p0] : List Value).toArray below meth cM H locs 0 0 (MQ below (va_Qi (fun r (u : Int32) => r = u) (fun u t => ∃ (f30 : Nat → Int32) (g24 : Nat → Int64), (u.toInt = 1 + (cntL g24 16 : Int) + (cntZ f30 (st 17).toInt.toNat : Int)) ∧ va_P (dC, dI) vwCl (cw_W c kc st lg (rU ai 30 f30) (rU al 24 g24) R) t.heap) A) ([.ref (c 106), .int p0] : List Value).toArray s 0 0 A) (F0 m 10 ls []) := by
      intro n
      induction n with
      | zero => intro l2_10 a30_10 H locs ls if0_10 if1_10 hm; exact absurd hm (Nat.not_lt_zero _)
      | succ n ih10 =>
        intro l2_10 a30_10 H locs ls if0_10 if1_10 hm10 hP hS hl
        refine lv_iload_n hx hb dX3_mark_10 rfl (lv_at hl 0 rfl) ?_
        refine lv_aload_n hx hb dX3_mark_11 rfl (lv_at hl 1 rfl) ?_
        refine va_get (D := (dC, dI)) (ci := 5) (v := .ref (c 104)) (C := RX3) (T := TX3) (N := 4) hx hb hts hin_X3 hown hK hP 6 rfl rfl 1 (by decide) (hts (.fieldLink RX3 15 "BlockLog$Pruning" "rows" "LBlockLog$Rows;") (by decide +kernel)) (fun _ h9 => h9) rfl dX3_mark_12 ?_
        refine va_getN (D := (dC, dI)) (ci := 6) (v := .int (st 17)) (C := RX4) (T := TX4) (N := 6) hx hb hts hin_X4 hown hK hP 4 rfl rfl 4 (by decide) (va_Nw.use rfl (hGW.1 ("BlockLog$Pruning", 33, "BlockLog$Rows", "count", "I", "BlockLog") (by decide +kernel))) (fun _ h9 => h9) rfl dX3_mark_15 ?_
        refine lv_icmp_ge (tgt := 70) hx hb dX3_mark_18 (by decide) (fun c_2 => ?_) (fun c_2 => ?_)
        · skip
          have ic_2 := iv_le c_2
          refine lv_aload_n hx hb dX3_mark_70 rfl (lv_at hl 1 rfl) ?_
          refine lv_iload_n hx hb dX3_mark_71 rfl (lv_at hl 2 rfl) ?_
          refine lv_aload_n hx hb dX3_mark_72 rfl (lv_at hl 1 rfl) ?_
          refine va_get (D := (dC, dI)) (ci := 5) (v := .ref (c 105)) (C := RX3) (T := TX3) (N := 4) hx hb hts hin_X3 hown hK hP 6 rfl rfl 2 (by decide) (hts (.fieldLink RX3 19 "BlockLog$Pruning" "story" "LBlockLog$Story;") (by decide +kernel)) (fun _ h9 => h9) rfl dX3_mark_73 ?_
          refine lv_iload_n hx hb dX3_mark_76 rfl (lv_at hl 2 rfl) ?_
          refine vp_callSl (va_Run.run (va_runV (As := [.int p0]) (rest := [.int p0, .ref (c 106)]) ⟨hx, hb, hml, hown, hts⟩ (v_X6_blockOf l dC dI c kc st lg (rU ai 30 a30_10) (rU al 24 g24_1) R p0 (show 0 ≤ (st 26).toInt by omega) (show (st 26).toInt ≤ 128 by omega) (show 0 ≤ (st 28).toInt by omega) (show (st 28).toInt ≤ 1 by omega) (show aR (ai 23) 128 (0) 127 from hR23)) (cwV 1 hts gX3_mark_X6_blockOf rfl rfl rfl (by decide +kernel) ⟨Nat.le_of_ble_eq_true rfl, Nat.le_of_ble_eq_true rfl⟩) ⟨fun a U g mk q => by obtain ⟨q0, qP, qK⟩ := q; exact ⟨q0, qP, va_K.moved (u := U) (U := U.calling g mk a) (Vm.Alike.refl U.vm) qK⟩, va_recv hK hP (ci := 8) (q := (RX6, TX6, 12)) rfl (q0 := 5) rfl, fun U hU hW => ⟨rfl, by rw [hU]; exact hP, va_K.moved hW.alike hK⟩⟩ rfl rfl hl.1 rfl (lv_room (Nat.le_of_ble_eq_true rfl)) dX3_mark_77 ⟨Nat.le_of_ble_eq_true rfl, Nat.le_of_ble_eq_true rfl⟩)) (fun r_3 er_3 => ?_)
          have hFc := vfree ((cw_D hD : va_D A (cw_W c kc st lg (rU ai 30 a30_10) (rU al 24 g24_1) R)) : va_D A (cw_W c kc st lg (rU ai 30 a30_10) (rU al 24 g24_1) R)) hS hA
          refine va_callv (va_runV (As := [.int p0, .long r_3]) (rest := []) ⟨hx, hb, hml, hown, hts⟩ (v_X3_markBlocks l dC dI c kc st lg (rU ai 30 a30_10) (rU al 24 g24_1) R p0 r_3 _ (show 0 ≤ (st 15).toInt by omega) (show (st 15).toInt ≤ 1 by omega) (show 0 ≤ (st 17).toInt by omega) (show (st 17).toInt ≤ 128 by omega) (show 0 ≤ (st 25).toInt by omega) (show (st 25).toInt ≤ 128 by omega)) (cwV 2 hts gX3_mark_X3_markBlocks rfl rfl rfl (by decide +kernel) ⟨Nat.le_of_ble_eq_true rfl, Nat.le_of_ble_eq_true rfl⟩) ⟨fun a U g mk q => by obtain ⟨q0, q1, qP, qK, qD, qG⟩ := q; exact ⟨q0, q1, qP, va_K.moved (u := U) (U := U.calling g mk a) (Vm.Alike.refl U.vm) qK, qD, qG.same rfl rfl⟩, va_recv hK hP (ci := 5) (q := (RX3, TX3, 4)) rfl (q0 := 6) rfl, fun U hU hW => ⟨rfl, by rw [hU], by rw [hU]; exact hP, va_K.moved hW.alike hK, ((cw_D hD : va_D A (cw_W c kc st lg (rU ai 30 a30_10) (rU al 24 g24_1) R))).weaken (fun _ _ _ _ => trivial), hG.go hW hU hS hFc⟩⟩ rfl rfl hl.1 rfl (lv_room (Nat.le_of_ble_eq_true rfl)) dX3_mark_80 ⟨Nat.le_of_ble_eq_true rfl, Nat.le_of_ble_eq_true rfl⟩) hS (fun q _ h => hFc q h) hFc (fun ur_4 t H1 locs ht hvm er_4 hB hz1 hk1 hS => ?_)
          obtain ⟨f30_4, hP1⟩ := hB
          rw [ht] at hP1
          clear hFc hz1 hk1 hvm hP
          subst ht
          have hP := hP1
          clear hP1
          generalize t.heap = H at hP hS ⊢
          have hP : va_P (dC, dI) vwCl (cw_W c kc st lg (rU ai 30 f30_4) (rU al 24 g24_1) R) H := hP
          refine lv_iconst (v := 1) hx hb dX3_mark_83 (by decide) ?_
          refine lv_aload_n hx hb dX3_mark_84 rfl (lv_at hl 1 rfl) ?_
          refine va_get (D := (dC, dI)) (ci := 5) (v := .ref (c 105)) (C := RX3) (T := TX3) (N := 4) hx hb hts hin_X3 hown hK hP 6 rfl rfl 2 (by decide) (hts (.fieldLink RX3 19 "BlockLog$Pruning" "story" "LBlockLog$Story;") (by decide +kernel)) (fun _ h9 => h9) rfl dX3_mark_85 ?_
          refine vp_callSi (va_Run.run (va_runV (As := []) (rest := [.int (1 : Int32)]) ⟨hx, hb, hml, hown, hts⟩ (v_X6_filledSlots l dC dI c kc st lg (rU ai 30 f30_4) (rU al 24 g24_1) R  ) (cwV 0 hts gX3_mark_X6_filledSlots rfl rfl rfl (by decide +kernel) ⟨Nat.le_of_ble_eq_true rfl, Nat.le_of_ble_eq_true rfl⟩) ⟨fun a U g mk q => by obtain ⟨q0, qP, qK⟩ := q; exact ⟨q0, qP, va_K.moved (u := U) (U := U.calling g mk a) (Vm.Alike.refl U.vm) qK⟩, va_recv hK hP (ci := 8) (q := (RX6, TX6, 12)) rfl (q0 := 5) rfl, fun U hU hW => ⟨rfl, by rw [hU]; exact hP, va_K.moved hW.alike hK⟩⟩ rfl rfl hl.1 rfl (lv_room (Nat.le_of_ble_eq_true rfl)) dX3_mark_88 ⟨Nat.le_of_ble_eq_true rfl, Nat.le_of_ble_eq_true rfl⟩)) (fun r_5 er_5 => ?_)
          obtain ⟨k_6, k_7, hcn⟩ := er_5
          have hcn : r_5.toInt = (cntL g24_1 16 : Int) := hcn
          refine lv_iadd hx hb dX3_mark_91 ?_
          refine lv_topi (fun v_8 ev_8 => ?_)
          have rg1 := iv_rng r_5
          have hv_8 : v_8.toInt = 1 + r_5.toInt := by rw [ev_8]; exact (iv_add (by omega) (by omega)).trans (by omega)
          clear ev_8
          refine lv_istore_n (lv' := [(2, .int v_8), (0, .ref (c 106)), (1, .int p0)]) hx hb dX3_mark_92 rfl hl (by decide) rfl (fun ls hl => ?_)
          refine lv_iconst (v := 0) hx hb dX3_mark_93 (by decide) ?_
          refine lv_istore_n (lv' := [(3, .int (0 : Int32)), (2, .int v_8), (0, .ref (c 106)), (1, .int p0)]) hx hb dX3_mark_94 rfl hl (by decide) rfl (fun ls hl => ?_)
          have loop95 : ∀ (n : Nat) (l3_95 : Int32) (l2_95 : Int32) (H : Heap) (locs : List Loc) (ls : Array Slot), (0 ≤ l3_95.toInt) → (l3_95.toInt ≤ (st 17).toInt) → (1 ≤ l2_95.toInt) → (l2_95.toInt ≤ 17 + l3_95.toInt) → (l2_95.toInt = 1 + (cntL g24_1 16 : Int) + (cntZ f30_4 l3_95.toInt.toNat : Int)) → ((st 17).toInt - l3_95.toInt : Int).toNat < n → va_P (dC, dI) vwCl (cw_W c kc st lg (rU ai 30 f30_4) (rU al 24 g24_1) R) H → va_S A s.heap H locs → lv_has ls 4 [(3, .int l3_95), (2, .int l2_95), (0, .ref (c 106)), (1, .int p0)] → W p l e (headSpec wsX3_mark ({ frames := 4, cells := 0, slots := 0, locals := 97 })).room s m ([.ref (c 106), .int p0] : List Value).toArray below meth cM H locs 0 0 (MQ below (va_Qi (fun r (u : Int32) => r = u) (fun u t => ∃ (f30 : Nat → Int32) (g24 : Nat → Int64), (u.toInt = 1 + (cntL g24 16 : Int) + (cntZ f30 (st 17).toInt.toNat : Int)) ∧ va_P (dC, dI) vwCl (cw_W c kc st lg (rU ai 30 f30) (rU al 24 g24) R) t.heap) A) ([.ref (c 106), .int p0] : List Value).toArray s 0 0 A) (F0 m 95 ls []) := by
            intro n
            induction n with
            | zero => intro l3_95 l2_95 H locs ls if0_95 if1_95 if2_95 if3_95 hcz hm; exact absurd hm (Nat.not_lt_zero _)
            | succ n ih95 =>
              intro l3_95 l2_95 H locs ls if0_95 if1_95 if2_95 if3_95 hcz hm95 hP hS hl
              refine lv_iload_n hx hb dX3_mark_95 rfl (lv_at hl 0 rfl) ?_
              refine lv_aload_n hx hb dX3_mark_96 rfl (lv_at hl 2 rfl) ?_
              refine va_get (D := (dC, dI)) (ci := 5) (v := .ref (c 104)) (C := RX3) (T := TX3) (N := 4) hx hb hts hin_X3 hown hK hP 6 rfl rfl 1 (by decide) (hts (.fieldLink RX3 15 "BlockLog$Pruning" "rows" "LBlockLog$Rows;") (by decide +kernel)) (fun _ h9 => h9) rfl dX3_mark_97 ?_
              refine va_getN (D := (dC, dI)) (ci := 6) (v := .int (st 17)) (C := RX4) (T := TX4) (N := 6) hx hb hts hin_X4 hown hK hP 4 rfl rfl 4 (by decide) (va_Nw.use rfl (hGW.1 ("BlockLog$Pruning", 33, "BlockLog$Rows", "count", "I", "BlockLog") (by decide +kernel))) (fun _ h9 => h9) rfl dX3_mark_100 ?_
              refine lv_icmp_ge (tgt := 124) hx hb dX3_mark_103 (by decide) (fun c_9 => ?_) (fun c_9 => ?_)
              · skip
                have ic_9 := iv_le c_9
                refine lv_iload_n hx hb dX3_mark_124 rfl (lv_at hl 1 rfl) ?_
                exact W.iret hx hb hr (fun t ht hW => ⟨⟨_, _, rfl, rfl, f30_4, g24_1, (by rw [show l3_95 = (st 17) from Int32.toInt_inj.mp (by omega)] at hcz; exact hcz), by rw [ht]; exact hP⟩, hS.F ht⟩) hS.2.2 dX3_mark_125
              · skip
                have ic_9 := iv_nle c_9
                refine lv_aload_n hx hb dX3_mark_106 rfl (lv_at hl 2 rfl) ?_
                refine va_get (D := (dC, dI)) (ci := 5) (v := .ref (c 30)) (C := RX3) (T := TX3) (N := 4) hx hb hts hin_X3 hown hK hP 6 rfl rfl 3 (by decide) (hts (.fieldLink RX3 23 "BlockLog$Pruning" "keeps" "[Z") (by decide +kernel)) (fun _ h9 => h9) rfl dX3_mark_107 ?_
                refine lv_iload_n hx hb dX3_mark_110 rfl (lv_at hl 0 rfl) ?_
                refine va_zald (f := f30_4) hx hb hK hP 21 13 rfl rfl (iv_in (i := l3_95) (by omega) (by omega)) dX3_mark_111 ?_
                refine lv_topi (fun v_10 ev_10 => ?_)
                have hX_prun_keeps := ev_10
                clear ev_10
                refine lv_if_eq (tgt := 118) hx hb dX3_mark_112 (by decide) (fun c_11 => ?_) (fun c_11 => ?_)
                · skip
                  have ic_11 := iv_eq c_11
                  obtain ⟨x_12, ex_12⟩ : ∃ z : Int32, z = l3_95 + (1) := ⟨_, rfl⟩
                  refine lv_iinc (v := x_12) (lv' := [(3, .int x_12), (2, .int l2_95), (0, .ref (c 106)), (1, .int p0)]) hx hb dX3_mark_118 hl (k := 0) rfl (by rw [ex_12]; rfl) (by decide) rfl (fun ls hl => ?_)
                  have rg2 := iv_rng l3_95
                  have hx_12 : x_12.toInt = l3_95.toInt + (1) := by rw [ex_12]; exact (iv_add (by omega) (by omega)).trans (by omega)
                  clear ex_12
                  refine lv_goto (tgt := 95) hx hb dX3_mark_121 (by decide) ?_
                  exact ih95 x_12 l2_95 _ _ _ (by omega) (by omega) (by omega) (by omega) (by first | exact cz_1 hcz hX_prun_keeps (by omega) (by omega) (by omega) (by omega) | exact cz_z hcz hX_prun_keeps (by omega) (by omega) (by omega) (by omega)) (by omega) hP hS (lv_sub hl [0, 1, 2, 3] rfl)
                · skip
                  have ic_11 := iv_ne c_11
                  obtain ⟨x_13, ex_13⟩ : ∃ z : Int32, z = l2_95 + (1) := ⟨_, rfl⟩
                  refine lv_iinc (v := x_13) (lv' := [(2, .int x_13), (3, .int l3_95), (0, .ref (c 106)), (1, .int p0)]) hx hb dX3_mark_115 hl (k := 1) rfl (by rw [ex_13]; rfl) (by decide) rfl (fun ls hl => ?_)
                  have rg3 := iv_rng l2_95
                  have hx_13 : x_13.toInt = l2_95.toInt + (1) := by rw [ex_13]; exact (iv_add (by omega) (by omega)).trans (by omega)
                  clear ex_13
                  obtain ⟨x_14, ex_14⟩ : ∃ z : Int32, z = l3_95 + (1) := ⟨_, rfl⟩
                  refine lv_iinc (v := x_14) (lv' := [(3, .int x_14), (2, .int x_13), (0, .ref (c 106)), (1, .int p0)]) hx hb dX3_mark_118 hl (k := 1) rfl (by rw [ex_14]; rfl) (by decide) rfl (fun ls hl => ?_)
                  have rg4 := iv_rng l3_95
                  have hx_14 : x_14.toInt = l3_95.toInt + (1) := by rw [ex_14]; exact (iv_add (by omega) (by omega)).trans (by omega)
                  clear ex_14
                  refine lv_goto (tgt := 95) hx hb dX3_mark_121 (by decide) ?_
                  exact ih95 x_14 x_13 _ _ _ (by omega) (by omega) (by omega) (by omega) (by first | exact cz_1 hcz hX_prun_keeps (by omega) (by omega) (by omega) (by omega) | exact cz_z hcz hX_prun_keeps (by omega) (by omega) (by omega) (by omega)) (by omega) hP hS (lv_sub hl [0, 1, 2, 3] rfl)
          exact loop95 (((st 17).toInt - 0 : Int).toNat + 1) (0 : Int32) v_8 _ _ _ (by omega) (by omega) (by omega) (by omega) (cz_0 (by omega) (by omega)) (by omega) hP hS (lv_sub hl [0, 1, 2, 3] rfl)
        · skip
          have ic_2 := iv_nle c_2
          refine lv_aload_n hx hb dX3_mark_21 rfl (lv_at hl 1 rfl) ?_
          refine va_get (D := (dC, dI)) (ci := 5) (v := .ref (c 30)) (C := RX3) (T := TX3) (N := 4) hx hb hts hin_X3 hown hK hP 6 rfl rfl 3 (by decide) (hts (.fieldLink RX3 23 "BlockLog$Pruning" "keeps" "[Z") (by decide +kernel)) (fun _ h9 => h9) rfl dX3_mark_22 ?_
          refine lv_iload_n hx hb dX3_mark_25 rfl (lv_at hl 0 rfl) ?_
          refine lv_iload_n hx hb dX3_mark_26 rfl (lv_at hl 0 rfl) ?_
          refine lv_aload_n hx hb dX3_mark_27 rfl (lv_at hl 1 rfl) ?_
          refine va_get (D := (dC, dI)) (ci := 5) (v := .ref (c 105)) (C := RX3) (T := TX3) (N := 4) hx hb hts hin_X3 hown hK hP 6 rfl rfl 2 (by decide) (hts (.fieldLink RX3 19 "BlockLog$Pruning" "story" "LBlockLog$Story;") (by decide +kernel)) (fun _ h9 => h9) rfl dX3_mark_28 ?_
          refine va_getN (D := (dC, dI)) (ci := 8) (v := .int (st 27)) (C := RX6) (T := TX6) (N := 12) hx hb hts hin_X6 hown hK hP 5 rfl rfl 9 (by decide) (va_Nw.use rfl (hGW.1 ("BlockLog$Pruning", 39, "BlockLog$Story", "lastVote", "I", "BlockLog") (by decide +kernel))) (fun _ h9 => h9) rfl dX3_mark_31 ?_
          refine lv_icmp_eq (tgt := 58) hx hb dX3_mark_34 (by decide) (fun c_15 => ?_) (fun c_15 => ?_)
          · skip
            have ic_15 := iv_eq c_15
            refine lv_iconst (v := 1) hx hb dX3_mark_58 (by decide) ?_
            refine lv_goto (tgt := 63) hx hb dX3_mark_59 (by decide) ?_
            refine va_zast (f := a30_10) hx hb hK hP (cw_D hD) hS 21 13 rfl rfl (iv_in (i := l2_10) (by omega) (by omega)) dX3_mark_63 (fun H locs hP _ hS => ?_)
            have hP : va_P (dC, dI) vwCl (cw_W c kc st lg (rU ai 30 (upd a30_10 l2_10.toNatClampNeg (vp_nar .boolean (1 : Int32)))) (rU al 24 g24_1) R) H := cw_b30 hP
            generalize hU_prun_keeps : upd a30_10 l2_10.toNatClampNeg (vp_nar .boolean (1 : Int32)) = g_16 at hP
            obtain ⟨x_17, ex_17⟩ : ∃ z : Int32, z = l2_10 + (1) := ⟨_, rfl⟩
            refine lv_iinc (v := x_17) (lv' := [(2, .int x_17), (0, .ref (c 106)), (1, .int p0)]) hx hb dX3_mark_64 hl (k := 0) rfl (by rw [ex_17]; rfl) (by decide) rfl (fun ls hl => ?_)
            have rg5 := iv_rng l2_10
            have hx_17 : x_17.toInt = l2_10.toInt + (1) := by rw [ex_17]; exact (iv_add (by omega) (by omega)).trans (by omega)
            clear ex_17
            refine lv_goto (tgt := 10) hx hb dX3_mark_67 (by decide) ?_
            exact ih10 x_17 g_16 _ _ _ (by omega) (by omega) (by omega) hP hS (lv_sub hl [0, 1, 2] rfl)
          · skip
            have ic_15 := iv_ne c_15
            refine lv_aload_n hx hb dX3_mark_37 rfl (lv_at hl 1 rfl) ?_
            refine va_get (D := (dC, dI)) (ci := 5) (v := .ref (c 105)) (C := RX3) (T := TX3) (N := 4) hx hb hts hin_X3 hown hK hP 6 rfl rfl 2 (by decide) (hts (.fieldLink RX3 19 "BlockLog$Pruning" "story" "LBlockLog$Story;") (by decide +kernel)) (fun _ h9 => h9) rfl dX3_mark_38 ?_
            refine va_getN (D := (dC, dI)) (ci := 8) (v := .ref (c 22)) (C := RX6) (T := TX6) (N := 12) hx hb hts hin_X6 hown hK hP 5 rfl rfl 4 (by decide) (va_Nw.use rfl (hGW.1 ("BlockLog$Pruning", 42, "BlockLog$Story", "fits", "[Z", "BlockLog") (by decide +kernel))) (fun _ h9 => h9) rfl dX3_mark_41 ?_
            refine lv_iload_n hx hb dX3_mark_44 rfl (lv_at hl 0 rfl) ?_
            refine va_zald (f := ai 22) hx hb hK hP 18 10 rfl rfl (iv_in (i := l2_10) (by omega) (by omega)) dX3_mark_45 ?_
            refine lv_topi (fun v_18 ev_18 => ?_)
            clear ev_18
            refine lv_if_eq (tgt := 62) hx hb dX3_mark_46 (by decide) (fun c_19 => ?_) (fun c_19 => ?_)
            · skip
              have ic_19 := iv_eq c_19
              refine lv_iconst (v := 0) hx hb dX3_mark_62 (by decide) ?_
              refine va_zast (f := a30_10) hx hb hK hP (cw_D hD) hS 21 13 rfl rfl (iv_in (i := l2_10) (by omega) (by omega)) dX3_mark_63 (fun H locs hP _ hS => ?_)
              have hP : va_P (dC, dI) vwCl (cw_W c kc st lg (rU ai 30 (upd a30_10 l2_10.toNatClampNeg (vp_nar .boolean (0 : Int32)))) (rU al 24 g24_1) R) H := cw_b30 hP
              generalize hU_prun_keeps : upd a30_10 l2_10.toNatClampNeg (vp_nar .boolean (0 : Int32)) = g_20 at hP
              obtain ⟨x_21, ex_21⟩ : ∃ z : Int32, z = l2_10 + (1) := ⟨_, rfl⟩
              refine lv_iinc (v := x_21) (lv' := [(2, .int x_21), (0, .ref (c 106)), (1, .int p0)]) hx hb dX3_mark_64 hl (k := 0) rfl (by rw [ex_21]; rfl) (by decide) rfl (fun ls hl => ?_)
              have rg6 := iv_rng l2_10
              have hx_21 : x_21.toInt = l2_10.toInt + (1) := by rw [ex_21]; exact (iv_add (by omega) (by omega)).trans (by omega)
              clear ex_21
              refine lv_goto (tgt := 10) hx hb dX3_mark_67 (by decide) ?_
              exact ih10 x_21 g_20 _ _ _ (by omega) (by omega) (by omega) hP hS (lv_sub hl [0, 1, 2] rfl)
            · skip
              have ic_19 := iv_ne c_19
              refine lv_aload_n hx hb dX3_mark_49 rfl (lv_at hl 1 rfl) ?_
              refine lv_iload_n hx hb dX3_mark_50 rfl (lv_at hl 0 rfl) ?_
              refine lv_iload_n hx hb dX3_mark_51 rfl (lv_at hl 2 rfl) ?_
              refine vp_callSi (va_Run.run (va_runV (As := [.int l2_10, .int p0]) (rest := [.int l2_10, .ref (c 30)]) ⟨hx, hb, hml, hown, hts⟩ (v_X3_isAbove l dC dI c kc st lg (rU ai 30 a30_10) (rU al 24 g24_1) R l2_10 p0 (show 0 ≤ (st 15).toInt by omega) (show (st 15).toInt ≤ 1 by omega) (show 0 ≤ (st 25).toInt by omega) (show (st 25).toInt ≤ 128 by omega) (by omega) (by omega)) (cwV 2 hts gX3_mark_X3_isAbove rfl rfl rfl (by decide +kernel) ⟨Nat.le_of_ble_eq_true rfl, Nat.le_of_ble_eq_true rfl⟩) ⟨fun a U g mk q => by obtain ⟨q0, qP, qK, qG⟩ := q; exact ⟨q0, qP, va_K.moved (u := U) (U := U.calling g mk a) (Vm.Alike.refl U.vm) qK, qG.same rfl⟩, va_recv hK hP (ci := 5) (q := (RX3, TX3, 4)) rfl (q0 := 6) rfl, fun U hU hW => ⟨rfl, by rw [hU]; exact hP, va_K.moved hW.alike hK, hGW.warm hW⟩⟩ rfl rfl hl.1 rfl (lv_room (Nat.le_of_ble_eq_true rfl)) dX3_mark_52 ⟨Nat.le_of_ble_eq_true rfl, Nat.le_of_ble_eq_true rfl⟩)) (fun r_22 er_22 => ?_)
              obtain ⟨k_23, k_24⟩ := er_22
              rcases iv_01 (a := r_22) (by omega) (by omega) with b_25 | b_25
              · skip
                have ib_25 := iv_eq b_25
                rw [b_25]
                refine lv_if_eq (tgt := 62) hx hb dX3_mark_55 (by decide) (fun c_26 => ?_) (fun c_26 => ?_)
                · skip
                  have ic_26 := iv_eq c_26
                  refine lv_iconst (v := 0) hx hb dX3_mark_62 (by decide) ?_
                  refine va_zast (f := a30_10) hx hb hK hP (cw_D hD) hS 21 13 rfl rfl (iv_in (i := l2_10) (by omega) (by omega)) dX3_mark_63 (fun H locs hP _ hS => ?_)
                  have hP : va_P (dC, dI) vwCl (cw_W c kc st lg (rU ai 30 (upd a30_10 l2_10.toNatClampNeg (vp_nar .boolean (0 : Int32)))) (rU al 24 g24_1) R) H := cw_b30 hP
                  generalize hU_prun_keeps : upd a30_10 l2_10.toNatClampNeg (vp_nar .boolean (0 : Int32)) = g_27 at hP
                  obtain ⟨x_28, ex_28⟩ : ∃ z : Int32, z = l2_10 + (1) := ⟨_, rfl⟩
                  refine lv_iinc (v := x_28) (lv' := [(2, .int x_28), (0, .ref (c 106)), (1, .int p0)]) hx hb dX3_mark_64 hl (k := 0) rfl (by rw [ex_28]; rfl) (by decide) rfl (fun ls hl => ?_)
                  have rg7 := iv_rng l2_10
                  have hx_28 : x_28.toInt = l2_10.toInt + (1) := by rw [ex_28]; exact (iv_add (by omega) (by omega)).trans (by omega)
                  clear ex_28
                  refine lv_goto (tgt := 10) hx hb dX3_mark_67 (by decide) ?_
                  exact ih10 x_28 g_27 _ _ _ (by omega) (by omega) (by omega) hP hS (lv_sub hl [0, 1, 2] rfl)
                · skip
                  have ic_26 := iv_ne c_26
                  exfalso
                  omega
              · skip
                have ib_25 := iv_eq b_25
                rw [b_25]
                refine lv_if_eq (tgt := 62) hx hb dX3_mark_55 (by decide) (fun c_29 => ?_) (fun c_29 => ?_)
                · skip
                  have ic_29 := iv_eq c_29
                  exfalso
                  omega
                · skip
                  have ic_29 := iv_ne c_29
                  refine lv_iconst (v := 1) hx hb dX3_mark_58 (by decide) ?_
                  refine lv_goto (tgt := 63) hx hb dX3_mark_59 (by decide) ?_
                  refine va_zast (f := a30_10) hx hb hK hP (cw_D hD) hS 21 13 rfl rfl (iv_in (i := l2_10) (by omega) (by omega)) dX3_mark_63 (fun H locs hP _ hS => ?_)
                  have hP : va_P (dC, dI) vwCl (cw_W c kc st lg (rU ai 30 (upd a30_10 l2_10.toNatClampNeg (vp_nar .boolean (1 : Int32)))) (rU al 24 g24_1) R) H := cw_b30 hP
                  generalize hU_prun_keeps : upd a30_10 l2_10.toNatClampNeg (vp_nar .boolean (1 : Int32)) = g_30 at hP
                  obtain ⟨x_31, ex_31⟩ : ∃ z : Int32, z = l2_10 + (1) := ⟨_, rfl⟩
                  refine lv_iinc (v := x_31) (lv' := [(2, .int x_31), (0, .ref (c 106)), (1, .int p0)]) hx hb dX3_mark_64 hl (k := 0) rfl (by rw [ex_31]; rfl) (by decide) rfl (fun ls hl => ?_)
                  have rg8 := iv_rng l2_10
                  have hx_31 : x_31.toInt = l2_10.toInt + (1) := by rw [ex_31]; exact (iv_add (by omega) (by omega)).trans (by omega)
                  clear ex_31
                  refine lv_goto (tgt := 10) hx hb dX3_mark_67 (by decide) ?_
                  exact ih10 x_31 g_30 _ _ _ (by omega) (by omega) (by omega) hP hS (lv_sub hl [0, 1, 2] rfl)
    exact loop10 (((st 17).toInt - 0 : Int).toNat + 1) (0 : Int32) (ai 30) _ _ _ (by omega) (by omega) (by omega) hP hS (lv_sub hl [0, 1, 2] rfl)
  exact main s.heap [] hP hS

set_option maxHeartbeats 4000000 in
set_option maxRecDepth 100000 in
theorem v_X3_writeVersion (l : Launch) (dC : Nat → ClassId) (dI : Nat → Nat → Nat) (c : Nat → Nat) (kc : Nat → ClassId) (st : Nat → Int32) (lg : Nat → Int64) (ai : Nat → Nat → Int32) (al : Nat → Nat → Int64) (R : va_W) (p0 : Int32) (p1 : Int32) (sz : Nat) (hf9a : 0 ≤ (st 9).toInt) (hf9b : (st 9).toInt ≤ 1) (hf26a : 0 ≤ (st 26).toInt) (hf26b : (st 26).toInt ≤ 128) (hf28a : 0 ≤ (st 28).toInt) (hf28b : (st 28).toInt ≤ 1) (hq0 : 0 ≤ p1.toInt) (hq1 : p1.toInt ≤ 1) (hR7 : aR (ai 7) 8224 (-128) 127) (hR23 : aR (ai 23) 128 (0) 127) : Met l yX3_writeVersion wsX3_writeVersion ({ frames := 4, cells := 0, slots := 0, locals := 98 }) (va_Pc [.ref (c 106), .int p0, .int p1] (fun U => U.heap.size = sz ∧ va_P (dC, dI) vwCl (cw_W c kc st lg ai al R) U.heap ∧ va_K (dC, dI) vwCl (cw_T kc) U ∧ va_D (fun _ => True) (cw_W c kc st lg ai al R) ∧ gx_E (va_A (cw_W c kc st lg ai al R) sz) U)) (va_Qi (fun r (u : Int32) => r = u) (fun u t => ∃ (x9 : Int32) (x10 : Int32) (x11 : Int32) (f7 : Nat → Int32) (f8 : Nat → Int32) (f14 : Nat → Int32), (u.toInt = -4 ∨ 1 ≤ u.toInt) ∧ (u.toInt ≤ 17) ∧ (0 ≤ x9.toInt) ∧ (x9.toInt ≤ 1) ∧ (aR f7 8224 (-128) 127) ∧ (u.toInt ≠ -4 → u.toInt = 1 + (cntL (al 24) 16 : Int)) ∧ va_P (dC, dI) vwCl (cw_W c kc (rU (rU (rU st 9 x9) 10 x10) 11 x11) lg (rU (rU (rU ai 7 f7) 8 f8) 14 f14) al R) t.heap) (va_A (cw_W c kc st lg ai al R) sz)) 0 0 (va_A (cw_W c kc st lg ai al R) sz) := by
  refine Met.ofW (cc := cX3_writeVersion) (maxL := 5) (ret := (some .int)) (by decide) rfl ?_
  intro p e s m args below meth cM s₁ B hml hv
  obtain ⟨rfl, hsz, hP, hK, hD0, hG⟩ := hv
  have hx := B.exec
  have hb := B.bytes
  have hr := B.returns
  have hts := atoms_spec (ws := wsX3_writeVersion) B.pre
  have hown : s.vm.findClass RX3 = some m.cls := findClass_of_methodNamed B.named
  have hGW := hG.1
  subst hsz
  have hD := hD0.self (sz := s.heap.size)
  generalize hAe : va_A (cw_W c kc st lg ai al R) s.heap.size = A at hD hG ⊢
  have hA : ∀ q : Nat, s.heap.size ≤ q → A q := fun q h => by rw [← hAe]; exact Or.inr h
  have hS : va_S A s.heap s.heap [] := va_S.rf
  clear hAe hD0
  have hl := lv_entry ([.ref (c 106), .int p0, .int p1]) (n := 5) (Nat.le_of_ble_eq_true rfl)
  rw [lg_entry_eq]
  generalize (lg_sl ([.ref (c 106), .int p0, .int p1]) ++ List.replicate (5 - (lg_sl ([.ref (c 106), .int p0, .int p1])).length) Slot.unset).toArray = ls at hl ⊢
  have hl : lv_has ls 5 [(0, .ref (c 106)), (1, .int p0), (2, .int p1)] := hl
  have z_m4 : (-4 : Int32).toInt = -4 := by decide
  have z_0 : (0 : Int32).toInt = 0 := by decide
  have z_1 : (1 : Int32).toInt = 1 := by decide
  have z_3 : (3 : Int32).toInt = 3 := by decide
  have z_5 : (5 : Int32).toInt = 5 := by decide
  have z_16 : (16 : Int32).toInt = 16 := by decide
  have hin_X3 : ∀ w ∈ u_ws RX3 TX3 4, w ∈ wsX3_writeVersion := by decide +kernel
  have hin_X6 : ∀ w ∈ u_ws RX6 TX6 12, w ∈ wsX3_writeVersion := by decide +kernel
  have main : ∀ (H : Heap) (locs : List Loc), va_P (dC, dI) vwCl (cw_W c kc st lg ai al R) H → va_S A s.heap H locs → W p l e (headSpec wsX3_writeVersion ({ frames := 4, cells := 0, slots := 0, locals := 98 })).room s m ([.ref (c 106), .int p0, .int p1] : List Value).toArray below meth cM H locs 0 0 (MQ below (va_Qi (fun r (u : Int32) => r = u) (fun u t => ∃ (x9 : Int32) (x10 : Int32) (x11 : Int32) (f7 : Nat → Int32) (f8 : Nat → Int32) (f14 : Nat → Int32), (u.toInt = -4 ∨ 1 ≤ u.toInt) ∧ (u.toInt ≤ 17) ∧ (0 ≤ x9.toInt) ∧ (x9.toInt ≤ 1) ∧ (aR f7 8224 (-128) 127) ∧ (u.toInt ≠ -4 → u.toInt = 1 + (cntL (al 24) 16 : Int)) ∧ va_P (dC, dI) vwCl (cw_W c kc (rU (rU (rU st 9 x9) 10 x10) 11 x11) lg (rU (rU (rU ai 7 f7) 8 f8) 14 f14) al R) t.heap) A) ([.ref (c 106), .int p0, .int p1] : List Value).toArray s 0 0 A) (F0 m 0 ls []) := by
    intro H locs hP hS
    refine lv_aload_n hx hb dX3_writeVersion_0 rfl (lv_at hl 0 rfl) ?_
    refine va_get (D := (dC, dI)) (ci := 5) (v := .ref (c 104)) (C := RX3) (T := TX3) (N := 4) hx hb hts hin_X3 hown hK hP 6 rfl rfl 1 (by decide) (hts (.fieldLink RX3 15 "BlockLog$Pruning" "rows" "LBlockLog$Rows;") (by decide +kernel)) (fun _ h9 => h9) rfl dX3_writeVersion_1 ?_
    refine lv_iconst (v := 5) hx hb dX3_writeVersion_4 (by decide) ?_
    refine lv_iload_n hx hb dX3_writeVersion_5 rfl (lv_at hl 1 rfl) ?_
    refine lv_aload_n hx hb dX3_writeVersion_6 rfl (lv_at hl 0 rfl) ?_
    refine va_get (D := (dC, dI)) (ci := 5) (v := .ref (c 105)) (C := RX3) (T := TX3) (N := 4) hx hb hts hin_X3 hown hK hP 6 rfl rfl 2 (by decide) (hts (.fieldLink RX3 19 "BlockLog$Pruning" "story" "LBlockLog$Story;") (by decide +kernel)) (fun _ h9 => h9) rfl dX3_writeVersion_7 ?_
    refine vp_callSi (va_Run.run (va_runV (As := []) (rest := [.int p0, .int (5 : Int32), .ref (c 104)]) ⟨hx, hb, hml, hown, hts⟩ (v_X6_filledSlots l dC dI c kc st lg ai al R  ) (cwV 0 hts gX3_writeVersion_X6_filledSlots rfl rfl rfl (by decide +kernel) ⟨Nat.le_of_ble_eq_true rfl, Nat.le_of_ble_eq_true rfl⟩) ⟨fun a U g mk q => by obtain ⟨q0, qP, qK⟩ := q; exact ⟨q0, qP, va_K.moved (u := U) (U := U.calling g mk a) (Vm.Alike.refl U.vm) qK⟩, va_recv hK hP (ci := 8) (q := (RX6, TX6, 12)) rfl (q0 := 5) rfl, fun U hU hW => ⟨rfl, by rw [hU]; exact hP, va_K.moved hW.alike hK⟩⟩ rfl rfl hl.1 rfl (lv_room (Nat.le_of_ble_eq_true rfl)) dX3_writeVersion_10 ⟨Nat.le_of_ble_eq_true rfl, Nat.le_of_ble_eq_true rfl⟩)) (fun r_1 er_1 => ?_)
    obtain ⟨k_2, k_3, hcn⟩ := er_1
    have hcn : r_1.toInt = (cntL (al 24) 16 : Int) := hcn
    refine lv_aload_n hx hb dX3_writeVersion_13 rfl (lv_at hl 0 rfl) ?_
    refine va_get (D := (dC, dI)) (ci := 5) (v := .ref (c 105)) (C := RX3) (T := TX3) (N := 4) hx hb hts hin_X3 hown hK hP 6 rfl rfl 2 (by decide) (hts (.fieldLink RX3 19 "BlockLog$Pruning" "story" "LBlockLog$Story;") (by decide +kernel)) (fun _ h9 => h9) rfl dX3_writeVersion_14 ?_
    refine lv_iload_n hx hb dX3_writeVersion_17 rfl (lv_at hl 1 rfl) ?_
    refine vp_callSl (va_Run.run (va_runV (As := [.int p0]) (rest := [.int r_1, .int p0, .int (5 : Int32), .ref (c 104)]) ⟨hx, hb, hml, hown, hts⟩ (v_X6_blockOf l dC dI c kc st lg ai al R p0 (show 0 ≤ (st 26).toInt by omega) (show (st 26).toInt ≤ 128 by omega) (show 0 ≤ (st 28).toInt by omega) (show (st 28).toInt ≤ 1 by omega) (show aR (ai 23) 128 (0) 127 from hR23)) (cwV 1 hts gX3_writeVersion_X6_blockOf rfl rfl rfl (by decide +kernel) ⟨Nat.le_of_ble_eq_true rfl, Nat.le_of_ble_eq_true rfl⟩) ⟨fun a U g mk q => by obtain ⟨q0, qP, qK⟩ := q; exact ⟨q0, qP, va_K.moved (u := U) (U := U.calling g mk a) (Vm.Alike.refl U.vm) qK⟩, va_recv hK hP (ci := 8) (q := (RX6, TX6, 12)) rfl (q0 := 5) rfl, fun U hU hW => ⟨rfl, by rw [hU]; exact hP, va_K.moved hW.alike hK⟩⟩ rfl rfl hl.1 rfl (lv_room (Nat.le_of_ble_eq_true rfl)) dX3_writeVersion_18 ⟨Nat.le_of_ble_eq_true rfl, Nat.le_of_ble_eq_true rfl⟩)) (fun r_4 er_4 => ?_)
    have hFc := vfree ((cw_D hD : va_D A (cw_W c kc st lg ai al R)) : va_D A (cw_W c kc st lg ai al R)) hS hA
    refine va_callv (va_runV (As := [.int (5 : Int32), .int p0, .int r_1, .long r_4]) (rest := []) ⟨hx, hb, hml, hown, hts⟩ (v_X4_draw l dC dI c kc st lg ai al R (5 : Int32) p0 r_1 r_4 _ ) (cwV 4 hts gX3_writeVersion_X4_draw rfl rfl rfl (by decide +kernel) ⟨Nat.le_of_ble_eq_true rfl, Nat.le_of_ble_eq_true rfl⟩) ⟨fun a U g mk q => by obtain ⟨q0, q1, qP, qK, qD⟩ := q; exact ⟨q0, q1, qP, va_K.moved (u := U) (U := U.calling g mk a) (Vm.Alike.refl U.vm) qK, qD⟩, va_recv hK hP (ci := 6) (q := (RX4, TX4, 6)) rfl (q0 := 4) rfl, fun U hU hW => ⟨rfl, by rw [hU], by rw [hU]; exact hP, va_K.moved hW.alike hK, ((cw_D hD : va_D A (cw_W c kc st lg ai al R))).weaken (fun _ _ _ _ => trivial)⟩⟩ rfl rfl hl.1 rfl (lv_room (Nat.le_of_ble_eq_true rfl)) dX3_writeVersion_21 ⟨Nat.le_of_ble_eq_true rfl, Nat.le_of_ble_eq_true rfl⟩) hS (fun q _ h => hFc q h) hFc (fun ur_5 t H1 locs ht hvm er_5 hB hz1 hk1 hS => ?_)
    obtain ⟨f14_5, hP1⟩ := hB
    rw [ht] at hP1
    clear hFc hz1 hk1 hvm hP
    subst ht
    have hP := hP1
    clear hP1
    generalize t.heap = H at hP hS ⊢
    have hP : va_P (dC, dI) vwCl (cw_W c kc st lg (rU ai 14 f14_5) al R) H := hP
    refine lv_aload_n hx hb dX3_writeVersion_24 rfl (lv_at hl 0 rfl) ?_
    refine va_get (D := (dC, dI)) (ci := 5) (v := .ref (c 104)) (C := RX3) (T := TX3) (N := 4) hx hb hts hin_X3 hown hK hP 6 rfl rfl 1 (by decide) (hts (.fieldLink RX3 15 "BlockLog$Pruning" "rows" "LBlockLog$Rows;") (by decide +kernel)) (fun _ h9 => h9) rfl dX3_writeVersion_25 ?_
    refine lv_iload_n hx hb dX3_writeVersion_28 rfl (lv_at hl 2 rfl) ?_
    refine lv_iconst (v := 0) hx hb dX3_writeVersion_29 (by decide) ?_
    have hFc := vfree ((cw_D hD : va_D A (cw_W c kc st lg (rU ai 14 f14_5) al R)) : va_D A (cw_W c kc st lg (rU ai 14 f14_5) al R)) hS hA
    refine va_calli (va_runV (As := [.int p1, .int (0 : Int32)]) (rest := []) ⟨hx, hb, hml, hown, hts⟩ (v_X4_writeImage l dC dI c kc st lg (rU ai 14 f14_5) al R p1 (0 : Int32) _ (show 0 ≤ (st 9).toInt by omega) (show (st 9).toInt ≤ 1 by omega) (by omega) (by omega) (by omega) (by omega) (show aR (ai 7) 8224 (-128) 127 from hR7)) (cwV 2 hts gX3_writeVersion_X4_writeImage rfl rfl rfl (by decide +kernel) ⟨Nat.le_of_ble_eq_true rfl, Nat.le_of_ble_eq_true rfl⟩) ⟨fun a U g mk q => by obtain ⟨q0, q1, qP, qK, qD⟩ := q; exact ⟨q0, q1, qP, va_K.moved (u := U) (U := U.calling g mk a) (Vm.Alike.refl U.vm) qK, qD⟩, va_recv hK hP (ci := 6) (q := (RX4, TX4, 6)) rfl (q0 := 4) rfl, fun U hU hW => ⟨rfl, by rw [hU], by rw [hU]; exact hP, va_K.moved hW.alike hK, ((cw_D hD : va_D A (cw_W c kc st lg (rU ai 14 f14_5) al R))).weaken (fun _ _ _ _ => trivial)⟩⟩ rfl rfl hl.1 rfl (lv_room (Nat.le_of_ble_eq_true rfl)) dX3_writeVersion_30 ⟨Nat.le_of_ble_eq_true rfl, Nat.le_of_ble_eq_true rfl⟩) hS (fun q _ h => hFc q h) hFc (fun r_6 ur_6 t H1 locs ht hvm er_6 hB hz1 hk1 hS => ?_)
    subst er_6
    obtain ⟨x9_6, x10_6, x11_6, f7_6, f8_6, k_7, k_8, k_9, k_10, hR7, hP1⟩ := hB
    rw [ht] at hP1
    clear hFc hz1 hk1 hvm hP
    subst ht
    have hP := hP1
    clear hP1
    generalize t.heap = H at hP hS ⊢
    have hP : va_P (dC, dI) vwCl (cw_W c kc (rU (rU (rU st 9 x9_6) 10 x10_6) 11 x11_6) lg (rU (rU (rU ai 7 f7_6) 8 f8_6) 14 f14_5) al R) H := hP
    have k_9 : 0 ≤ x9_6.toInt := k_9
    have k_10 : x9_6.toInt ≤ 1 := k_10
    have hR7 : aR f7_6 8224 (-128) 127 := hR7
    rcases iv_01 (a := r_6) (by omega) (by omega) with b_11 | b_11
    · skip
      have ib_11 := iv_eq b_11
      rw [b_11]
      refine lv_if_ne (tgt := 39) hx hb dX3_writeVersion_33 (by decide) (fun c_12 => ?_) (fun c_12 => ?_)
      · skip
        have ic_12 := iv_ne c_12
        exfalso
        omega
      · skip
        have ic_12 := iv_eq c_12
        refine lv_bipush (v := (-4)) hx hb dX3_writeVersion_36 (by decide) ?_
        exact W.iret hx hb hr (fun t ht hW => ⟨⟨_, _, rfl, rfl, x9_6, x10_6, x11_6, f7_6, f8_6, f14_5, (by omega), (by omega), (by omega), (by omega), hR7, (fun h => absurd (by omega) h), by rw [ht]; exact hP⟩, hS.F ht⟩) hS.2.2 dX3_writeVersion_38
    · skip
      have ib_11 := iv_eq b_11
      rw [b_11]
      refine lv_if_ne (tgt := 39) hx hb dX3_writeVersion_33 (by decide) (fun c_13 => ?_) (fun c_13 => ?_)
      · skip
        have ic_13 := iv_ne c_13
        refine lv_iconst (v := 1) hx hb dX3_writeVersion_39 (by decide) ?_
        refine lv_istore_n (lv' := [(3, .int (1 : Int32)), (0, .ref (c 106)), (1, .int p0), (2, .int p1)]) hx hb dX3_writeVersion_40 rfl hl (by decide) rfl (fun ls hl => ?_)
        refine lv_iconst (v := 0) hx hb dX3_writeVersion_41 (by decide) ?_
        refine lv_istore (lv' := [(4, .int (0 : Int32)), (3, .int (1 : Int32)), (0, .ref (c 106)), (1, .int p0), (2, .int p1)]) hx hb dX3_writeVersion_42 hl (by decide) rfl (fun ls hl => ?_)
        have loop44 : ∀ (n : Nat) (l4_44 : Int32) (l3_44 : Int32) (s9_44 : Int32) (s10_44 : Int32) (s11_44 : Int32) (a7_44 : Nat → Int32) (a8_44 : Nat → Int32) (a14_44 : Nat → Int32) (H : Heap) (locs : List Loc) (ls : Array Slot), (0 ≤ l4_44.toInt) → (l4_44.toInt ≤ 16) → (1 ≤ l3_44.toInt) → (l3_44.toInt ≤ 1 + l4_44.toInt) → (0 ≤ s9_44.toInt) → (s9_44.toInt ≤ 1) → (aR a7_44 8224 (-128) 127) → (l3_44.toInt - 1 = (cntL (al 24) l4_44.toInt.toNat : Int)) → (16 - l4_44.toInt : Int).toNat < n → va_P (dC, dI) vwCl (cw_W c kc (rU (rU (rU st 9 s9_44) 10 s10_44) 11 s11_44) lg (rU (rU (rU ai 7 a7_44) 8 a8_44) 14 a14_44) al R) H → va_S A s.heap H locs → lv_has ls 5 [(4, .int l4_44), (3, .int l3_44), (0, .ref (c 106)), (1, .int p0), (2, .int p1)] → W p l e (headSpec wsX3_writeVersion ({ frames := 4, cells := 0, slots := 0, locals := 98 })).room s m ([.ref (c 106), .int p0, .int p1] : List Value).toArray below meth cM H locs 0 0 (MQ below (va_Qi (fun r (u : Int32) => r = u) (fun u t => ∃ (x9 : Int32) (x10 : Int32) (x11 : Int32) (f7 : Nat → Int32) (f8 : Nat → Int32) (f14 : Nat → Int32), (u.toInt = -4 ∨ 1 ≤ u.toInt) ∧ (u.toInt ≤ 17) ∧ (0 ≤ x9.toInt) ∧ (x9.toInt ≤ 1) ∧ (aR f7 8224 (-128) 127) ∧ (u.toInt ≠ -4 → u.toInt = 1 + (cntL (al 24) 16 : Int)) ∧ va_P (dC, dI) vwCl (cw_W c kc (rU (rU (rU st 9 x9) 10 x10) 11 x11) lg (rU (rU (rU ai 7 f7) 8 f8) 14 f14) al R) t.heap) A) ([.ref (c 106), .int p0, .int p1] : List Value).toArray s 0 0 A) (F0 m 44 ls []) := by
          intro n
          induction n with
          | zero => intro l4_44 l3_44 s9_44 s10_44 s11_44 a7_44 a8_44 a14_44 H locs ls if0_44 if1_44 if2_44 if3_44 if4_44 if5_44 hR7 hcn9 hm; exact absurd hm (Nat.not_lt_zero _)
          | succ n ih44 =>
            intro l4_44 l3_44 s9_44 s10_44 s11_44 a7_44 a8_44 a14_44 H locs ls if0_44 if1_44 if2_44 if3_44 if4_44 if5_44 hR7 hcn9 hm44 hP hS hl
            refine lv_iload hx hb dX3_writeVersion_44 (lv_at hl 0 rfl) ?_
            refine lv_bipush (v := 16) hx hb dX3_writeVersion_46 (by decide) ?_
            refine lv_icmp_ge (tgt := 111) hx hb dX3_writeVersion_48 (by decide) (fun c_14 => ?_) (fun c_14 => ?_)
            · skip
              have ic_14 := iv_le c_14
              refine lv_iload_n hx hb dX3_writeVersion_111 rfl (lv_at hl 1 rfl) ?_
              exact W.iret hx hb hr (fun t ht hW => ⟨⟨_, _, rfl, rfl, s9_44, s10_44, s11_44, a7_44, a8_44, a14_44, (by omega), (by omega), (by omega), (by omega), hR7, (fun _ => cn_e1 hcn9 (by omega)), by rw [ht]; exact hP⟩, hS.F ht⟩) hS.2.2 dX3_writeVersion_112
            · skip
              have ic_14 := iv_nle c_14
              refine lv_aload_n hx hb dX3_writeVersion_51 rfl (lv_at hl 2 rfl) ?_
              refine va_get (D := (dC, dI)) (ci := 5) (v := .ref (c 105)) (C := RX3) (T := TX3) (N := 4) hx hb hts hin_X3 hown hK hP 6 rfl rfl 2 (by decide) (hts (.fieldLink RX3 19 "BlockLog$Pruning" "story" "LBlockLog$Story;") (by decide +kernel)) (fun _ h9 => h9) rfl dX3_writeVersion_52 ?_
              refine va_getN (D := (dC, dI)) (ci := 8) (v := .ref (c 24)) (C := RX6) (T := TX6) (N := 12) hx hb hts hin_X6 hown hK hP 5 rfl rfl 6 (by decide) (va_Nw.use rfl (hGW.1 ("BlockLog$Pruning", 122, "BlockLog$Story", "slots", "[J", "BlockLog") (by decide +kernel))) (fun _ h9 => h9) rfl dX3_writeVersion_55 ?_
              refine lv_iload hx hb dX3_writeVersion_58 (lv_at hl 0 rfl) ?_
              refine va_lald (f := al 24) hx hb hK hP 20 12 rfl rfl (iv_in (i := l4_44) (by omega) (by omega)) dX3_writeVersion_60 ?_
              refine lv_topl (fun w_15 ew_15 => ?_)
              have hX_story_slots := ew_15
              clear ew_15
              refine lv_lconst (v := 0) hx hb dX3_writeVersion_61 (by decide) ?_
              refine W.lcmp hx hb dX3_writeVersion_62 ?_
              refine lv_topi (fun v_16 ev_16 => ?_)
              refine lv_if_eq (tgt := 105) hx hb dX3_writeVersion_63 (by decide) (fun c_17 => ?_) (fun c_17 => ?_)
              · skip
                have ic_17 := iv_eq c_17
                obtain ⟨x_18, ex_18⟩ : ∃ z : Int32, z = l4_44 + (1) := ⟨_, rfl⟩
                refine lv_iinc (v := x_18) (lv' := [(4, .int x_18), (3, .int l3_44), (0, .ref (c 106)), (1, .int p0), (2, .int p1)]) hx hb dX3_writeVersion_105 hl (k := 0) rfl (by rw [ex_18]; rfl) (by decide) rfl (fun ls hl => ?_)
                have rg1 := iv_rng l4_44
                have hx_18 : x_18.toInt = l4_44.toInt + (1) := by rw [ex_18]; exact (iv_add (by omega) (by omega)).trans (by omega)
                clear ex_18
                refine lv_goto (tgt := 44) hx hb dX3_writeVersion_108 (by decide) ?_
                exact ih44 x_18 l3_44 s9_44 s10_44 s11_44 a7_44 a8_44 a14_44 _ _ _ (by omega) (by omega) (by omega) (by omega) (by omega) (by omega) (by assumption) (by first | exact cn_1 (d := 1) hcn9 hX_story_slots (by assumption) (by assumption) (by omega) (by omega) (by omega) | exact cn_z (d := 1) hcn9 hX_story_slots (by assumption) (by assumption) (by omega) (by omega) (by omega)) (by omega) hP hS (lv_sub hl [0, 1, 2, 3, 4] rfl)
              · skip
                have ic_17 := iv_ne c_17
                have hX1 := hX_story_slots
                refine lv_aload_n hx hb dX3_writeVersion_66 rfl (lv_at hl 2 rfl) ?_
                refine va_get (D := (dC, dI)) (ci := 5) (v := .ref (c 104)) (C := RX3) (T := TX3) (N := 4) hx hb hts hin_X3 hown hK hP 6 rfl rfl 1 (by decide) (hts (.fieldLink RX3 15 "BlockLog$Pruning" "rows" "LBlockLog$Rows;") (by decide +kernel)) (fun _ h9 => h9) rfl dX3_writeVersion_67 ?_
                refine lv_iconst (v := 3) hx hb dX3_writeVersion_70 (by decide) ?_
                refine lv_iload hx hb dX3_writeVersion_71 (lv_at hl 0 rfl) ?_
                refine lv_iconst (v := 0) hx hb dX3_writeVersion_73 (by decide) ?_
                refine lv_aload_n hx hb dX3_writeVersion_74 rfl (lv_at hl 2 rfl) ?_
                refine va_get (D := (dC, dI)) (ci := 5) (v := .ref (c 105)) (C := RX3) (T := TX3) (N := 4) hx hb hts hin_X3 hown hK hP 6 rfl rfl 2 (by decide) (hts (.fieldLink RX3 19 "BlockLog$Pruning" "story" "LBlockLog$Story;") (by decide +kernel)) (fun _ h9 => h9) rfl dX3_writeVersion_75 ?_
                refine va_getN (D := (dC, dI)) (ci := 8) (v := .ref (c 24)) (C := RX6) (T := TX6) (N := 12) hx hb hts hin_X6 hown hK hP 5 rfl rfl 6 (by decide) (va_Nw.use rfl (hGW.1 ("BlockLog$Pruning", 122, "BlockLog$Story", "slots", "[J", "BlockLog") (by decide +kernel))) (fun _ h9 => h9) rfl dX3_writeVersion_78 ?_
                refine lv_iload hx hb dX3_writeVersion_81 (lv_at hl 0 rfl) ?_
                refine va_lald (f := al 24) hx hb hK hP 20 12 rfl rfl (iv_in (i := l4_44) (by omega) (by omega)) dX3_writeVersion_83 ?_
                refine lv_topl (fun w_19 ew_19 => ?_)
                have hX_story_slots := ew_19
                clear ew_19
                have hFc := vfree ((cw_D hD : va_D A (cw_W c kc (rU (rU (rU st 9 s9_44) 10 s10_44) 11 s11_44) lg (rU (rU (rU ai 7 a7_44) 8 a8_44) 14 a14_44) al R)) : va_D A (cw_W c kc (rU (rU (rU st 9 s9_44) 10 s10_44) 11 s11_44) lg (rU (rU (rU ai 7 a7_44) 8 a8_44) 14 a14_44) al R)) hS hA
                refine va_callv (va_runV (As := [.int (3 : Int32), .int l4_44, .int (0 : Int32), .long w_19]) (rest := []) ⟨hx, hb, hml, hown, hts⟩ (v_X4_draw l dC dI c kc (rU (rU (rU st 9 s9_44) 10 s10_44) 11 s11_44) lg (rU (rU (rU ai 7 a7_44) 8 a8_44) 14 a14_44) al R (3 : Int32) l4_44 (0 : Int32) w_19 _ ) (cwV 4 hts gX3_writeVersion_X4_draw rfl rfl rfl (by decide +kernel) ⟨Nat.le_of_ble_eq_true rfl, Nat.le_of_ble_eq_true rfl⟩) ⟨fun a U g mk q => by obtain ⟨q0, q1, qP, qK, qD⟩ := q; exact ⟨q0, q1, qP, va_K.moved (u := U) (U := U.calling g mk a) (Vm.Alike.refl U.vm) qK, qD⟩, va_recv hK hP (ci := 6) (q := (RX4, TX4, 6)) rfl (q0 := 4) rfl, fun U hU hW => ⟨rfl, by rw [hU], by rw [hU]; exact hP, va_K.moved hW.alike hK, ((cw_D hD : va_D A (cw_W c kc (rU (rU (rU st 9 s9_44) 10 s10_44) 11 s11_44) lg (rU (rU (rU ai 7 a7_44) 8 a8_44) 14 a14_44) al R))).weaken (fun _ _ _ _ => trivial)⟩⟩ rfl rfl hl.1 rfl (lv_room (Nat.le_of_ble_eq_true rfl)) dX3_writeVersion_84 ⟨Nat.le_of_ble_eq_true rfl, Nat.le_of_ble_eq_true rfl⟩) hS (fun q _ h => hFc q h) hFc (fun ur_20 t H1 locs ht hvm er_20 hB hz1 hk1 hS => ?_)
                obtain ⟨f14_20, hP1⟩ := hB
                rw [ht] at hP1
                clear hFc hz1 hk1 hvm hP
                subst ht
                have hP := hP1
                clear hP1
                generalize t.heap = H at hP hS ⊢
                have hP : va_P (dC, dI) vwCl (cw_W c kc (rU (rU (rU st 9 s9_44) 10 s10_44) 11 s11_44) lg (rU (rU (rU ai 7 a7_44) 8 a8_44) 14 f14_20) al R) H := hP
                refine lv_aload_n hx hb dX3_writeVersion_87 rfl (lv_at hl 2 rfl) ?_
                refine va_get (D := (dC, dI)) (ci := 5) (v := .ref (c 104)) (C := RX3) (T := TX3) (N := 4) hx hb hts hin_X3 hown hK hP 6 rfl rfl 1 (by decide) (hts (.fieldLink RX3 15 "BlockLog$Pruning" "rows" "LBlockLog$Rows;") (by decide +kernel)) (fun _ h9 => h9) rfl dX3_writeVersion_88 ?_
                refine lv_iload_n hx hb dX3_writeVersion_91 rfl (lv_at hl 4 rfl) ?_
                refine lv_iload_n hx hb dX3_writeVersion_92 rfl (lv_at hl 1 rfl) ?_
                have hFc := vfree ((cw_D hD : va_D A (cw_W c kc (rU (rU (rU st 9 s9_44) 10 s10_44) 11 s11_44) lg (rU (rU (rU ai 7 a7_44) 8 a8_44) 14 f14_20) al R)) : va_D A (cw_W c kc (rU (rU (rU st 9 s9_44) 10 s10_44) 11 s11_44) lg (rU (rU (rU ai 7 a7_44) 8 a8_44) 14 f14_20) al R)) hS hA
                refine va_calli (va_runV (As := [.int p1, .int l3_44]) (rest := []) ⟨hx, hb, hml, hown, hts⟩ (v_X4_writeImage l dC dI c kc (rU (rU (rU st 9 s9_44) 10 s10_44) 11 s11_44) lg (rU (rU (rU ai 7 a7_44) 8 a8_44) 14 f14_20) al R p1 l3_44 _ (show 0 ≤ s9_44.toInt by omega) (show s9_44.toInt ≤ 1 by omega) (by omega) (by omega) (by omega) (by omega) (show aR a7_44 8224 (-128) 127 from hR7)) (cwV 2 hts gX3_writeVersion_X4_writeImage rfl rfl rfl (by decide +kernel) ⟨Nat.le_of_ble_eq_true rfl, Nat.le_of_ble_eq_true rfl⟩) ⟨fun a U g mk q => by obtain ⟨q0, q1, qP, qK, qD⟩ := q; exact ⟨q0, q1, qP, va_K.moved (u := U) (U := U.calling g mk a) (Vm.Alike.refl U.vm) qK, qD⟩, va_recv hK hP (ci := 6) (q := (RX4, TX4, 6)) rfl (q0 := 4) rfl, fun U hU hW => ⟨rfl, by rw [hU], by rw [hU]; exact hP, va_K.moved hW.alike hK, ((cw_D hD : va_D A (cw_W c kc (rU (rU (rU st 9 s9_44) 10 s10_44) 11 s11_44) lg (rU (rU (rU ai 7 a7_44) 8 a8_44) 14 f14_20) al R))).weaken (fun _ _ _ _ => trivial)⟩⟩ rfl rfl hl.1 rfl (lv_room (Nat.le_of_ble_eq_true rfl)) dX3_writeVersion_93 ⟨Nat.le_of_ble_eq_true rfl, Nat.le_of_ble_eq_true rfl⟩) hS (fun q _ h => hFc q h) hFc (fun r_21 ur_21 t H1 locs ht hvm er_21 hB hz1 hk1 hS => ?_)
                subst er_21
                obtain ⟨x9_21, x10_21, x11_21, f7_21, f8_21, k_22, k_23, k_24, k_25, hR7, hP1⟩ := hB
                rw [ht] at hP1
                clear hFc hz1 hk1 hvm hP
                subst ht
                have hP := hP1
                clear hP1
                generalize t.heap = H at hP hS ⊢
                have hP : va_P (dC, dI) vwCl (cw_W c kc (rU (rU (rU st 9 x9_21) 10 x10_21) 11 x11_21) lg (rU (rU (rU ai 7 f7_21) 8 f8_21) 14 f14_20) al R) H := hP
                have k_24 : 0 ≤ x9_21.toInt := k_24
                have k_25 : x9_21.toInt ≤ 1 := k_25
                have hR7 : aR f7_21 8224 (-128) 127 := hR7
                rcases iv_01 (a := r_21) (by omega) (by omega) with b_26 | b_26
                · skip
                  have ib_26 := iv_eq b_26
                  rw [b_26]
                  refine lv_if_ne (tgt := 102) hx hb dX3_writeVersion_96 (by decide) (fun c_27 => ?_) (fun c_27 => ?_)
                  · skip
                    have ic_27 := iv_ne c_27
                    exfalso
                    omega
                  · skip
                    have ic_27 := iv_eq c_27
                    refine lv_bipush (v := (-4)) hx hb dX3_writeVersion_99 (by decide) ?_
                    exact W.iret hx hb hr (fun t ht hW => ⟨⟨_, _, rfl, rfl, x9_21, x10_21, x11_21, f7_21, f8_21, f14_20, (by omega), (by omega), (by omega), (by omega), hR7, (fun h => absurd (by omega) h), by rw [ht]; exact hP⟩, hS.F ht⟩) hS.2.2 dX3_writeVersion_101
                · skip
                  have ib_26 := iv_eq b_26
                  rw [b_26]
                  refine lv_if_ne (tgt := 102) hx hb dX3_writeVersion_96 (by decide) (fun c_28 => ?_) (fun c_28 => ?_)
                  · skip
                    have ic_28 := iv_ne c_28
                    have hX_story_slots := hX1
                    obtain ⟨x_29, ex_29⟩ : ∃ z : Int32, z = l3_44 + (1) := ⟨_, rfl⟩
                    refine lv_iinc (v := x_29) (lv' := [(3, .int x_29), (4, .int l4_44), (0, .ref (c 106)), (1, .int p0), (2, .int p1)]) hx hb dX3_writeVersion_102 hl (k := 1) rfl (by rw [ex_29]; rfl) (by decide) rfl (fun ls hl => ?_)
                    have rg2 := iv_rng l3_44
                    have hx_29 : x_29.toInt = l3_44.toInt + (1) := by rw [ex_29]; exact (iv_add (by omega) (by omega)).trans (by omega)
                    clear ex_29
                    obtain ⟨x_30, ex_30⟩ : ∃ z : Int32, z = l4_44 + (1) := ⟨_, rfl⟩
                    refine lv_iinc (v := x_30) (lv' := [(4, .int x_30), (3, .int x_29), (0, .ref (c 106)), (1, .int p0), (2, .int p1)]) hx hb dX3_writeVersion_105 hl (k := 1) rfl (by rw [ex_30]; rfl) (by decide) rfl (fun ls hl => ?_)
                    have rg3 := iv_rng l4_44
                    have hx_30 : x_30.toInt = l4_44.toInt + (1) := by rw [ex_30]; exact (iv_add (by omega) (by omega)).trans (by omega)
                    clear ex_30
                    refine lv_goto (tgt := 44) hx hb dX3_writeVersion_108 (by decide) ?_
                    exact ih44 x_30 x_29 x9_21 x10_21 x11_21 f7_21 f8_21 f14_20 _ _ _ (by omega) (by omega) (by omega) (by omega) (by omega) (by omega) (by assumption) (by first | exact cn_1 (d := 1) hcn9 hX_story_slots (by assumption) (by assumption) (by omega) (by omega) (by omega) | exact cn_z (d := 1) hcn9 hX_story_slots (by assumption) (by assumption) (by omega) (by omega) (by omega)) (by omega) hP hS (lv_sub hl [0, 1, 2, 3, 4] rfl)
                  · skip
                    have ic_28 := iv_eq c_28
                    exfalso
                    omega
        exact loop44 ((16 - 0 : Int).toNat + 1) (0 : Int32) (1 : Int32) x9_6 x10_6 x11_6 f7_6 f8_6 f14_5 _ _ _ (by omega) (by omega) (by omega) (by omega) (by omega) (by omega) (by assumption) (cn_0 (by omega) (by omega)) (by omega) hP hS (lv_sub hl [0, 1, 2, 3, 4] rfl)
      · skip
        have ic_13 := iv_eq c_13
        exfalso
        omega
  exact main s.heap [] hP hS

set_option maxHeartbeats 4000000 in
set_option maxRecDepth 100000 in
theorem v_X3_copyKept (l : Launch) (dC : Nat → ClassId) (dI : Nat → Nat → Nat) (c : Nat → Nat) (kc : Nat → ClassId) (st : Nat → Int32) (lg : Nat → Int64) (ai : Nat → Nat → Int32) (al : Nat → Nat → Int64) (R : va_W) (p0 : Int32) (p1 : Int32) (sz : Nat) (hf9a : 0 ≤ (st 9).toInt) (hf9b : (st 9).toInt ≤ 1) (hf15a : 0 ≤ (st 15).toInt) (hf15b : (st 15).toInt ≤ 1) (hf17a : 0 ≤ (st 17).toInt) (hf17b : (st 17).toInt ≤ 128) (hq0 : 0 ≤ p0.toInt) (hq1 : p0.toInt ≤ 17) (hq2 : 0 ≤ p1.toInt) (hq3 : p1.toInt ≤ 1) (hR7 : aR (ai 7) 8224 (-128) 127) (hck : p0.toInt + (cntZ (ai 30) (st 17).toInt.toNat : Int) ≤ 128) : Met l yX3_copyKept wsX3_copyKept ({ frames := 3, cells := 0, slots := 0, locals := 81 }) (va_Pc [.ref (c 106), .int p0, .int p1] (fun U => U.heap.size = sz ∧ va_P (dC, dI) vwCl (cw_W c kc st lg ai al R) U.heap ∧ va_K (dC, dI) vwCl (cw_T kc) U ∧ va_D (fun _ => True) (cw_W c kc st lg ai al R) ∧ gx_E (va_A (cw_W c kc st lg ai al R) sz) U)) (va_Qi (fun r (u : Int32) => r = u) (fun u t => ∃ (x9 : Int32) (x10 : Int32) (x11 : Int32) (f7 : Nat → Int32) (f8 : Nat → Int32) (f14 : Nat → Int32), (u.toInt = -4 ∨ (0 ≤ u.toInt ∧ u.toInt ≤ 128)) ∧ (0 ≤ x9.toInt) ∧ (x9.toInt ≤ 1) ∧ (aR f7 8224 (-128) 127) ∧ va_P (dC, dI) vwCl (cw_W c kc (rU (rU (rU st 9 x9) 10 x10) 11 x11) lg (rU (rU (rU ai 7 f7) 8 f8) 14 f14) al R) t.heap) (va_A (cw_W c kc st lg ai al R) sz)) 0 0 (va_A (cw_W c kc st lg ai al R) sz) := by
  refine Met.ofW (cc := cX3_copyKept) (maxL := 5) (ret := (some .int)) (by decide) rfl ?_
  intro p e s m args below meth cM s₁ B hml hv
  obtain ⟨rfl, hsz, hP, hK, hD0, hG⟩ := hv
  have hx := B.exec
  have hb := B.bytes
  have hr := B.returns
  have hts := atoms_spec (ws := wsX3_copyKept) B.pre
  have hown : s.vm.findClass RX3 = some m.cls := findClass_of_methodNamed B.named
  have hGW := hG.1
  subst hsz
  have hD := hD0.self (sz := s.heap.size)
  generalize hAe : va_A (cw_W c kc st lg ai al R) s.heap.size = A at hD hG ⊢
  have hA : ∀ q : Nat, s.heap.size ≤ q → A q := fun q h => by rw [← hAe]; exact Or.inr h
  have hS : va_S A s.heap s.heap [] := va_S.rf
  clear hAe hD0
  have hl := lv_entry ([.ref (c 106), .int p0, .int p1]) (n := 5) (Nat.le_of_ble_eq_true rfl)
  rw [lg_entry_eq]
  generalize (lg_sl ([.ref (c 106), .int p0, .int p1]) ++ List.replicate (5 - (lg_sl ([.ref (c 106), .int p0, .int p1])).length) Slot.unset).toArray = ls at hl ⊢
  have hl : lv_has ls 5 [(0, .ref (c 106)), (1, .int p0), (2, .int p1)] := hl
  have z_m4 : (-4 : Int32).toInt = -4 := by decide
  have z_0 : (0 : Int32).toInt = 0 := by decide
  have z_1 : (1 : Int32).toInt = 1 := by decide
  have hin_X3 : ∀ w ∈ u_ws RX3 TX3 4, w ∈ wsX3_copyKept := by decide +kernel
  have hin_X4 : ∀ w ∈ u_ws RX4 TX4 6, w ∈ wsX3_copyKept := by decide +kernel
  have main : ∀ (H : Heap) (locs : List Loc), va_P (dC, dI) vwCl (cw_W c kc st lg ai al R) H → va_S A s.heap H locs → W p l e (headSpec wsX3_copyKept ({ frames := 3, cells := 0, slots := 0, locals := 81 })).room s m ([.ref (c 106), .int p0, .int p1] : List Value).toArray below meth cM H locs 0 0 (MQ below (va_Qi (fun r (u : Int32) => r = u) (fun u t => ∃ (x9 : Int32) (x10 : Int32) (x11 : Int32) (f7 : Nat → Int32) (f8 : Nat → Int32) (f14 : Nat → Int32), (u.toInt = -4 ∨ (0 ≤ u.toInt ∧ u.toInt ≤ 128)) ∧ (0 ≤ x9.toInt) ∧ (x9.toInt ≤ 1) ∧ (aR f7 8224 (-128) 127) ∧ va_P (dC, dI) vwCl (cw_W c kc (rU (rU (rU st 9 x9) 10 x10) 11 x11) lg (rU (rU (rU ai 7 f7) 8 f8) 14 f14) al R) t.heap) A) ([.ref (c 106), .int p0, .int p1] : List Value).toArray s 0 0 A) (F0 m 0 ls []) := by
    intro H locs hP hS
    refine lv_iload_n hx hb dX3_copyKept_0 rfl (lv_at hl 1 rfl) ?_
    refine lv_istore_n (lv' := [(3, .int p0), (0, .ref (c 106)), (1, .int p0), (2, .int p1)]) hx hb dX3_copyKept_1 rfl hl (by decide) rfl (fun ls hl => ?_)
    refine lv_iconst (v := 0) hx hb dX3_copyKept_2 (by decide) ?_
    refine lv_istore (lv' := [(4, .int (0 : Int32)), (3, .int p0), (0, .ref (c 106)), (1, .int p0), (2, .int p1)]) hx hb dX3_copyKept_3 hl (by decide) rfl (fun ls hl => ?_)
    have loop5 : ∀ (n : Nat) (l4_5 : Int32) (l3_5 : Int32) (s9_5 : Int32) (s10_5 : Int32) (s11_5 : Int32) (a7_5 : Nat → Int32) (a8_5 : Nat → Int32) (a14_5 : Nat → Int32) (H : Heap) (locs : List Loc) (ls : Array Slot), (0 ≤ l4_5.toInt) → (l4_5.toInt ≤ (st 17).toInt) → (0 ≤ l3_5.toInt) → (l3_5.toInt ≤ 17 + l4_5.toInt) → (0 ≤ s9_5.toInt) → (s9_5.toInt ≤ 1) → (aR a7_5 8224 (-128) 127) → (l3_5.toInt = p0.toInt + (cntZ (ai 30) l4_5.toInt.toNat : Int)) → ((st 17).toInt - l4_5.toInt : Int).toNat < n → va_P (dC, dI) vwCl (cw_W c kc (rU (rU (rU st 9 s9_5) 10 s10_5) 11 s11_5) lg (rU (rU (rU ai 7 a7_5) 8 a8_5) 14 a14_5) al R) H → va_S A s.heap H locs → lv_has ls 5 [(4, .int l4_5), (3, .int l3_5), (0, .ref (c 106)), (1, .int p0), (2, .int p1)] → W p l e (headSpec wsX3_copyKept ({ frames := 3, cells := 0, slots := 0, locals := 81 })).room s m ([.ref (c 106), .int p0, .int p1] : List Value).toArray below meth cM H locs 0 0 (MQ below (va_Qi (fun r (u : Int32) => r = u) (fun u t => ∃ (x9 : Int32) (x10 : Int32) (x11 : Int32) (f7 : Nat → Int32) (f8 : Nat → Int32) (f14 : Nat → Int32), (u.toInt = -4 ∨ (0 ≤ u.toInt ∧ u.toInt ≤ 128)) ∧ (0 ≤ x9.toInt) ∧ (x9.toInt ≤ 1) ∧ (aR f7 8224 (-128) 127) ∧ va_P (dC, dI) vwCl (cw_W c kc (rU (rU (rU st 9 x9) 10 x10) 11 x11) lg (rU (rU (rU ai 7 f7) 8 f8) 14 f14) al R) t.heap) A) ([.ref (c 106), .int p0, .int p1] : List Value).toArray s 0 0 A) (F0 m 5 ls []) := by
      intro n
      induction n with
      | zero => intro l4_5 l3_5 s9_5 s10_5 s11_5 a7_5 a8_5 a14_5 H locs ls if0_5 if1_5 if2_5 if3_5 if4_5 if5_5 hR7 hcz hm; exact absurd hm (Nat.not_lt_zero _)
      | succ n ih5 =>
        intro l4_5 l3_5 s9_5 s10_5 s11_5 a7_5 a8_5 a14_5 H locs ls if0_5 if1_5 if2_5 if3_5 if4_5 if5_5 hR7 hcz hm5 hP hS hl
        refine lv_iload hx hb dX3_copyKept_5 (lv_at hl 0 rfl) ?_
        refine lv_aload_n hx hb dX3_copyKept_7 rfl (lv_at hl 2 rfl) ?_
        refine va_get (D := (dC, dI)) (ci := 5) (v := .ref (c 104)) (C := RX3) (T := TX3) (N := 4) hx hb hts hin_X3 hown hK hP 6 rfl rfl 1 (by decide) (hts (.fieldLink RX3 15 "BlockLog$Pruning" "rows" "LBlockLog$Rows;") (by decide +kernel)) (fun _ h9 => h9) rfl dX3_copyKept_8 ?_
        refine va_getN (D := (dC, dI)) (ci := 6) (v := .int (st 17)) (C := RX4) (T := TX4) (N := 6) hx hb hts hin_X4 hown hK hP 4 rfl rfl 4 (by decide) (va_Nw.use rfl (hGW.1 ("BlockLog$Pruning", 33, "BlockLog$Rows", "count", "I", "BlockLog") (by decide +kernel))) (fun _ h9 => h9) rfl dX3_copyKept_11 ?_
        refine lv_icmp_ge (tgt := 60) hx hb dX3_copyKept_14 (by decide) (fun c_1 => ?_) (fun c_1 => ?_)
        · skip
          have ic_1 := iv_le c_1
          have k_2 : l3_5.toInt ≤ 128 := cz_le hcz hck (by omega)
          refine lv_iload_n hx hb dX3_copyKept_60 rfl (lv_at hl 1 rfl) ?_
          exact W.iret hx hb hr (fun t ht hW => ⟨⟨_, _, rfl, rfl, s9_5, s10_5, s11_5, a7_5, a8_5, a14_5, (by omega), (by omega), (by omega), hR7, by rw [ht]; exact hP⟩, hS.F ht⟩) hS.2.2 dX3_copyKept_61
        · skip
          have ic_1 := iv_nle c_1
          refine lv_aload_n hx hb dX3_copyKept_17 rfl (lv_at hl 2 rfl) ?_
          refine va_get (D := (dC, dI)) (ci := 5) (v := .ref (c 30)) (C := RX3) (T := TX3) (N := 4) hx hb hts hin_X3 hown hK hP 6 rfl rfl 3 (by decide) (hts (.fieldLink RX3 23 "BlockLog$Pruning" "keeps" "[Z") (by decide +kernel)) (fun _ h9 => h9) rfl dX3_copyKept_18 ?_
          refine lv_iload hx hb dX3_copyKept_21 (lv_at hl 0 rfl) ?_
          refine va_zald (f := ai 30) hx hb hK hP 21 13 rfl rfl (iv_in (i := l4_5) (by omega) (by omega)) dX3_copyKept_23 ?_
          refine lv_topi (fun v_3 ev_3 => ?_)
          have hX_prun_keeps := ev_3
          clear ev_3
          refine lv_if_eq (tgt := 54) hx hb dX3_copyKept_24 (by decide) (fun c_4 => ?_) (fun c_4 => ?_)
          · skip
            have ic_4 := iv_eq c_4
            obtain ⟨x_5, ex_5⟩ : ∃ z : Int32, z = l4_5 + (1) := ⟨_, rfl⟩
            refine lv_iinc (v := x_5) (lv' := [(4, .int x_5), (3, .int l3_5), (0, .ref (c 106)), (1, .int p0), (2, .int p1)]) hx hb dX3_copyKept_54 hl (k := 0) rfl (by rw [ex_5]; rfl) (by decide) rfl (fun ls hl => ?_)
            have rg1 := iv_rng l4_5
            have hx_5 : x_5.toInt = l4_5.toInt + (1) := by rw [ex_5]; exact (iv_add (by omega) (by omega)).trans (by omega)
            clear ex_5
            refine lv_goto (tgt := 5) hx hb dX3_copyKept_57 (by decide) ?_
            exact ih5 x_5 l3_5 s9_5 s10_5 s11_5 a7_5 a8_5 a14_5 _ _ _ (by omega) (by omega) (by omega) (by omega) (by omega) (by omega) (by assumption) (by first | exact cz_1 hcz hX_prun_keeps (by omega) (by omega) (by omega) (by omega) | exact cz_z hcz hX_prun_keeps (by omega) (by omega) (by omega) (by omega)) (by omega) hP hS (lv_sub hl [0, 1, 2, 3, 4] rfl)
          · skip
            have ic_4 := iv_ne c_4
            have k_6 : l3_5.toInt ≤ 127 := cz_lt hcz hck hX_prun_keeps (by omega) (by omega) (by omega)
            refine lv_aload_n hx hb dX3_copyKept_27 rfl (lv_at hl 2 rfl) ?_
            refine va_get (D := (dC, dI)) (ci := 5) (v := .ref (c 104)) (C := RX3) (T := TX3) (N := 4) hx hb hts hin_X3 hown hK hP 6 rfl rfl 1 (by decide) (hts (.fieldLink RX3 15 "BlockLog$Pruning" "rows" "LBlockLog$Rows;") (by decide +kernel)) (fun _ h9 => h9) rfl dX3_copyKept_28 ?_
            refine lv_iload hx hb dX3_copyKept_31 (lv_at hl 0 rfl) ?_
            have hFc := vfree ((cw_D hD : va_D A (cw_W c kc (rU (rU (rU st 9 s9_5) 10 s10_5) 11 s11_5) lg (rU (rU (rU ai 7 a7_5) 8 a8_5) 14 a14_5) al R)) : va_D A (cw_W c kc (rU (rU (rU st 9 s9_5) 10 s10_5) 11 s11_5) lg (rU (rU (rU ai 7 a7_5) 8 a8_5) 14 a14_5) al R)) hS hA
            refine va_callv (va_runV (As := [.int l4_5]) (rest := []) ⟨hx, hb, hml, hown, hts⟩ (v_X4_drawCopy l dC dI c kc (rU (rU (rU st 9 s9_5) 10 s10_5) 11 s11_5) lg (rU (rU (rU ai 7 a7_5) 8 a8_5) 14 a14_5) al R l4_5 _ (show 0 ≤ (st 15).toInt by omega) (show (st 15).toInt ≤ 1 by omega) (by omega) (by omega) (show aR a7_5 8224 (-128) 127 from hR7)) (cwV 1 hts gX3_copyKept_X4_drawCopy rfl rfl rfl (by decide +kernel) ⟨Nat.le_of_ble_eq_true rfl, Nat.le_of_ble_eq_true rfl⟩) ⟨fun a U g mk q => by obtain ⟨q0, q1, qP, qK, qD, qG⟩ := q; exact ⟨q0, q1, qP, va_K.moved (u := U) (U := U.calling g mk a) (Vm.Alike.refl U.vm) qK, qD, qG.same rfl rfl⟩, va_recv hK hP (ci := 6) (q := (RX4, TX4, 6)) rfl (q0 := 4) rfl, fun U hU hW => ⟨rfl, by rw [hU], by rw [hU]; exact hP, va_K.moved hW.alike hK, ((cw_D hD : va_D A (cw_W c kc (rU (rU (rU st 9 s9_5) 10 s10_5) 11 s11_5) lg (rU (rU (rU ai 7 a7_5) 8 a8_5) 14 a14_5) al R))).weaken (fun _ _ _ _ => trivial), hG.go hW hU hS hFc⟩⟩ rfl rfl hl.1 rfl (lv_room (Nat.le_of_ble_eq_true rfl)) dX3_copyKept_33 ⟨Nat.le_of_ble_eq_true rfl, Nat.le_of_ble_eq_true rfl⟩) hS (fun q _ h => hFc q h) hFc (fun ur_7 t H1 locs ht hvm er_7 hB hz1 hk1 hS => ?_)
            obtain ⟨f14_7, hP1⟩ := hB
            rw [ht] at hP1
            clear hFc hz1 hk1 hvm hP
            subst ht
            have hP := hP1
            clear hP1
            generalize t.heap = H at hP hS ⊢
            have hP : va_P (dC, dI) vwCl (cw_W c kc (rU (rU (rU st 9 s9_5) 10 s10_5) 11 s11_5) lg (rU (rU (rU ai 7 a7_5) 8 a8_5) 14 f14_7) al R) H := hP
            refine lv_aload_n hx hb dX3_copyKept_36 rfl (lv_at hl 2 rfl) ?_
            refine va_get (D := (dC, dI)) (ci := 5) (v := .ref (c 104)) (C := RX3) (T := TX3) (N := 4) hx hb hts hin_X3 hown hK hP 6 rfl rfl 1 (by decide) (hts (.fieldLink RX3 15 "BlockLog$Pruning" "rows" "LBlockLog$Rows;") (by decide +kernel)) (fun _ h9 => h9) rfl dX3_copyKept_37 ?_
            refine lv_iload_n hx hb dX3_copyKept_40 rfl (lv_at hl 4 rfl) ?_
            refine lv_iload_n hx hb dX3_copyKept_41 rfl (lv_at hl 1 rfl) ?_
            have hFc := vfree ((cw_D hD : va_D A (cw_W c kc (rU (rU (rU st 9 s9_5) 10 s10_5) 11 s11_5) lg (rU (rU (rU ai 7 a7_5) 8 a8_5) 14 f14_7) al R)) : va_D A (cw_W c kc (rU (rU (rU st 9 s9_5) 10 s10_5) 11 s11_5) lg (rU (rU (rU ai 7 a7_5) 8 a8_5) 14 f14_7) al R)) hS hA
            refine va_calli (va_runV (As := [.int p1, .int l3_5]) (rest := []) ⟨hx, hb, hml, hown, hts⟩ (v_X4_writeImage l dC dI c kc (rU (rU (rU st 9 s9_5) 10 s10_5) 11 s11_5) lg (rU (rU (rU ai 7 a7_5) 8 a8_5) 14 f14_7) al R p1 l3_5 _ (show 0 ≤ s9_5.toInt by omega) (show s9_5.toInt ≤ 1 by omega) (by omega) (by omega) (by omega) (by omega) (show aR a7_5 8224 (-128) 127 from hR7)) (cwV 2 hts gX3_copyKept_X4_writeImage rfl rfl rfl (by decide +kernel) ⟨Nat.le_of_ble_eq_true rfl, Nat.le_of_ble_eq_true rfl⟩) ⟨fun a U g mk q => by obtain ⟨q0, q1, qP, qK, qD⟩ := q; exact ⟨q0, q1, qP, va_K.moved (u := U) (U := U.calling g mk a) (Vm.Alike.refl U.vm) qK, qD⟩, va_recv hK hP (ci := 6) (q := (RX4, TX4, 6)) rfl (q0 := 4) rfl, fun U hU hW => ⟨rfl, by rw [hU], by rw [hU]; exact hP, va_K.moved hW.alike hK, ((cw_D hD : va_D A (cw_W c kc (rU (rU (rU st 9 s9_5) 10 s10_5) 11 s11_5) lg (rU (rU (rU ai 7 a7_5) 8 a8_5) 14 f14_7) al R))).weaken (fun _ _ _ _ => trivial)⟩⟩ rfl rfl hl.1 rfl (lv_room (Nat.le_of_ble_eq_true rfl)) dX3_copyKept_42 ⟨Nat.le_of_ble_eq_true rfl, Nat.le_of_ble_eq_true rfl⟩) hS (fun q _ h => hFc q h) hFc (fun r_8 ur_8 t H1 locs ht hvm er_8 hB hz1 hk1 hS => ?_)
            subst er_8
            obtain ⟨x9_8, x10_8, x11_8, f7_8, f8_8, k_9, k_10, k_11, k_12, hR7, hP1⟩ := hB
            rw [ht] at hP1
            clear hFc hz1 hk1 hvm hP
            subst ht
            have hP := hP1
            clear hP1
            generalize t.heap = H at hP hS ⊢
            have hP : va_P (dC, dI) vwCl (cw_W c kc (rU (rU (rU st 9 x9_8) 10 x10_8) 11 x11_8) lg (rU (rU (rU ai 7 f7_8) 8 f8_8) 14 f14_7) al R) H := hP
            have k_11 : 0 ≤ x9_8.toInt := k_11
            have k_12 : x9_8.toInt ≤ 1 := k_12
            have hR7 : aR f7_8 8224 (-128) 127 := hR7
            rcases iv_01 (a := r_8) (by omega) (by omega) with b_13 | b_13
            · skip
              have ib_13 := iv_eq b_13
              rw [b_13]
              refine lv_if_ne (tgt := 51) hx hb dX3_copyKept_45 (by decide) (fun c_14 => ?_) (fun c_14 => ?_)
              · skip
                have ic_14 := iv_ne c_14
                exfalso
                omega
              · skip
                have ic_14 := iv_eq c_14
                refine lv_bipush (v := (-4)) hx hb dX3_copyKept_48 (by decide) ?_
                exact W.iret hx hb hr (fun t ht hW => ⟨⟨_, _, rfl, rfl, x9_8, x10_8, x11_8, f7_8, f8_8, f14_7, (by omega), (by omega), (by omega), hR7, by rw [ht]; exact hP⟩, hS.F ht⟩) hS.2.2 dX3_copyKept_50
            · skip
              have ib_13 := iv_eq b_13
              rw [b_13]
              refine lv_if_ne (tgt := 51) hx hb dX3_copyKept_45 (by decide) (fun c_15 => ?_) (fun c_15 => ?_)
              · skip
                have ic_15 := iv_ne c_15
                obtain ⟨x_16, ex_16⟩ : ∃ z : Int32, z = l3_5 + (1) := ⟨_, rfl⟩
                refine lv_iinc (v := x_16) (lv' := [(3, .int x_16), (4, .int l4_5), (0, .ref (c 106)), (1, .int p0), (2, .int p1)]) hx hb dX3_copyKept_51 hl (k := 1) rfl (by rw [ex_16]; rfl) (by decide) rfl (fun ls hl => ?_)
                have rg2 := iv_rng l3_5
                have hx_16 : x_16.toInt = l3_5.toInt + (1) := by rw [ex_16]; exact (iv_add (by omega) (by omega)).trans (by omega)
                clear ex_16
                obtain ⟨x_17, ex_17⟩ : ∃ z : Int32, z = l4_5 + (1) := ⟨_, rfl⟩
                refine lv_iinc (v := x_17) (lv' := [(4, .int x_17), (3, .int x_16), (0, .ref (c 106)), (1, .int p0), (2, .int p1)]) hx hb dX3_copyKept_54 hl (k := 1) rfl (by rw [ex_17]; rfl) (by decide) rfl (fun ls hl => ?_)
                have rg3 := iv_rng l4_5
                have hx_17 : x_17.toInt = l4_5.toInt + (1) := by rw [ex_17]; exact (iv_add (by omega) (by omega)).trans (by omega)
                clear ex_17
                refine lv_goto (tgt := 5) hx hb dX3_copyKept_57 (by decide) ?_
                exact ih5 x_17 x_16 x9_8 x10_8 x11_8 f7_8 f8_8 f14_7 _ _ _ (by omega) (by omega) (by omega) (by omega) (by omega) (by omega) (by assumption) (by first | exact cz_1 hcz hX_prun_keeps (by omega) (by omega) (by omega) (by omega) | exact cz_z hcz hX_prun_keeps (by omega) (by omega) (by omega) (by omega)) (by omega) hP hS (lv_sub hl [0, 1, 2, 3, 4] rfl)
              · skip
                have ic_15 := iv_eq c_15
                exfalso
                omega
    exact loop5 (((st 17).toInt - 0 : Int).toNat + 1) (0 : Int32) p0 (st 9) (st 10) (st 11) (ai 7) (ai 8) (ai 14) _ _ _ (by omega) (by omega) (by omega) (by omega) (by omega) (by omega) (by assumption) (cz_0 (by omega) (by omega)) (by omega) hP hS (lv_sub hl [0, 1, 2, 3, 4] rfl)
  exact main s.heap [] hP hS

set_option maxHeartbeats 4000000 in
set_option maxRecDepth 100000 in
theorem v_X3_move (l : Launch) (dC : Nat → ClassId) (dI : Nat → Nat → Nat) (c : Nat → Nat) (kc : Nat → ClassId) (st : Nat → Int32) (lg : Nat → Int64) (ai : Nat → Nat → Int32) (al : Nat → Nat → Int64) (R : va_W) (p0 : Int32) (sz : Nat) (hf9a : 0 ≤ (st 9).toInt) (hf9b : (st 9).toInt ≤ 1) (hf15a : 0 ≤ (st 15).toInt) (hf15b : (st 15).toInt ≤ 1) (hf17a : 0 ≤ (st 17).toInt) (hf17b : (st 17).toInt ≤ 128) (hf26a : 0 ≤ (st 26).toInt) (hf26b : (st 26).toInt ≤ 128) (hf28a : 0 ≤ (st 28).toInt) (hf28b : (st 28).toInt ≤ 1) (hR7 : aR (ai 7) 8224 (-128) 127) (hR23 : aR (ai 23) 128 (0) 127) (hmv : 1 + (cntL (al 24) 16 : Int) + (cntZ (ai 30) (st 17).toInt.toNat : Int) ≤ 128) : Met l yX3_move wsX3_move ({ frames := 5, cells := 0, slots := 0, locals := 122 }) (va_Pc [.ref (c 106), .int p0] (fun U => U.heap.size = sz ∧ va_P (dC, dI) vwCl (cw_W c kc st lg ai al R) U.heap ∧ va_K (dC, dI) vwCl (cw_T kc) U ∧ va_D (fun _ => True) (cw_W c kc st lg ai al R) ∧ gx_E (va_A (cw_W c kc st lg ai al R) sz) U)) (va_Qi (fun r (u : Int32) => r = u) (fun u t => ∃ (x9 : Int32) (x10 : Int32) (x11 : Int32) (x15 : Int32) (x16 : Int32) (x17 : Int32) (f7 : Nat → Int32) (f8 : Nat → Int32) (f14 : Nat → Int32), (0 ≤ u.toInt) ∧ (u.toInt ≤ 1) ∧ (0 ≤ x9.toInt) ∧ (x9.toInt ≤ 1) ∧ (0 ≤ x15.toInt) ∧ (x15.toInt ≤ 1) ∧ (0 ≤ x17.toInt) ∧ (x17.toInt ≤ 128) ∧ (aR f7 8224 (-128) 127) ∧ va_P (dC, dI) vwCl (cw_W c kc (rU (rU (rU (rU (rU (rU st 9 x9) 10 x10) 11 x11) 15 x15) 16 x16) 17 x17) lg (rU (rU (rU ai 7 f7) 8 f8) 14 f14) al R) t.heap) (va_A (cw_W c kc st lg ai al R) sz)) 0 0 (va_A (cw_W c kc st lg ai al R) sz) := by
  refine Met.ofW (cc := cX3_move) (maxL := 6) (ret := (some .boolean)) (by decide) rfl ?_
  intro p e s m args below meth cM s₁ B hml hv
  obtain ⟨rfl, hsz, hP, hK, hD0, hG⟩ := hv
  have hx := B.exec
  have hb := B.bytes
  have hr := B.returns
  have hts := atoms_spec (ws := wsX3_move) B.pre
  have hown : s.vm.findClass RX3 = some m.cls := findClass_of_methodNamed B.named
  have hGW := hG.1
  subst hsz
  have hD := hD0.self (sz := s.heap.size)
  generalize hAe : va_A (cw_W c kc st lg ai al R) s.heap.size = A at hD hG ⊢
  have hA : ∀ q : Nat, s.heap.size ≤ q → A q := fun q h => by rw [← hAe]; exact Or.inr h
  have hS : va_S A s.heap s.heap [] := va_S.rf
  clear hAe hD0
  have hl := lv_entry ([.ref (c 106), .int p0]) (n := 6) (Nat.le_of_ble_eq_true rfl)
  rw [lg_entry_eq]
  generalize (lg_sl ([.ref (c 106), .int p0]) ++ List.replicate (6 - (lg_sl ([.ref (c 106), .int p0])).length) Slot.unset).toArray = ls at hl ⊢
  have hl : lv_has ls 6 [(0, .ref (c 106)), (1, .int p0)] := hl
  have z_m4 : (-4 : Int32).toInt = -4 := by decide
  have z_0 : (0 : Int32).toInt = 0 := by decide
  have z_1 : (1 : Int32).toInt = 1 := by decide
  have z_16 : (16 : Int32).toInt = 16 := by decide
  have z_128 : (128 : Int32).toInt = 128 := by decide
  have hin_X3 : ∀ w ∈ u_ws RX3 TX3 4, w ∈ wsX3_move := by decide +kernel
  have hin_X4 : ∀ w ∈ u_ws RX4 TX4 6, w ∈ wsX3_move := by decide +kernel
  have main : ∀ (H : Heap) (locs : List Loc), va_P (dC, dI) vwCl (cw_W c kc st lg ai al R) H → va_S A s.heap H locs → W p l e (headSpec wsX3_move ({ frames := 5, cells := 0, slots := 0, locals := 122 })).room s m ([.ref (c 106), .int p0] : List Value).toArray below meth cM H locs 0 0 (MQ below (va_Qi (fun r (u : Int32) => r = u) (fun u t => ∃ (x9 : Int32) (x10 : Int32) (x11 : Int32) (x15 : Int32) (x16 : Int32) (x17 : Int32) (f7 : Nat → Int32) (f8 : Nat → Int32) (f14 : Nat → Int32), (0 ≤ u.toInt) ∧ (u.toInt ≤ 1) ∧ (0 ≤ x9.toInt) ∧ (x9.toInt ≤ 1) ∧ (0 ≤ x15.toInt) ∧ (x15.toInt ≤ 1) ∧ (0 ≤ x17.toInt) ∧ (x17.toInt ≤ 128) ∧ (aR f7 8224 (-128) 127) ∧ va_P (dC, dI) vwCl (cw_W c kc (rU (rU (rU (rU (rU (rU st 9 x9) 10 x10) 11 x11) 15 x15) 16 x16) 17 x17) lg (rU (rU (rU ai 7 f7) 8 f8) 14 f14) al R) t.heap) A) ([.ref (c 106), .int p0] : List Value).toArray s 0 0 A) (F0 m 0 ls []) := by
    intro H locs hP hS
    refine lv_iconst (v := 1) hx hb dX3_move_0 (by decide) ?_
    refine lv_aload_n hx hb dX3_move_1 rfl (lv_at hl 0 rfl) ?_
    refine va_get (D := (dC, dI)) (ci := 5) (v := .ref (c 104)) (C := RX3) (T := TX3) (N := 4) hx hb hts hin_X3 hown hK hP 6 rfl rfl 1 (by decide) (hts (.fieldLink RX3 15 "BlockLog$Pruning" "rows" "LBlockLog$Rows;") (by decide +kernel)) (fun _ h9 => h9) rfl dX3_move_2 ?_
    refine va_getN (D := (dC, dI)) (ci := 6) (v := .int (st 15)) (C := RX4) (T := TX4) (N := 6) hx hb hts hin_X4 hown hK hP 4 rfl rfl 2 (by decide) (va_Nw.use rfl (hGW.1 ("BlockLog$Pruning", 85, "BlockLog$Rows", "area", "I", "BlockLog") (by decide +kernel))) (fun _ h9 => h9) rfl dX3_move_5 ?_
    refine lv_isub hx hb dX3_move_8 ?_
    refine lv_topi (fun v_1 ev_1 => ?_)
    have rg1 := iv_rng (st 15)
    have hv_1 : v_1.toInt = 1 - (st 15).toInt := by rw [ev_1]; exact (iv_sub (by omega) (by omega)).trans (by omega)
    clear ev_1
    refine lv_istore_n (lv' := [(2, .int v_1), (0, .ref (c 106)), (1, .int p0)]) hx hb dX3_move_9 rfl hl (by decide) rfl (fun ls hl => ?_)
    refine lv_aload_n hx hb dX3_move_10 rfl (lv_at hl 1 rfl) ?_
    refine va_get (D := (dC, dI)) (ci := 5) (v := .ref (c 102)) (C := RX3) (T := TX3) (N := 4) hx hb hts hin_X3 hown hK hP 6 rfl rfl 0 (by decide) (hts (.fieldLink RX3 9 "BlockLog$Pruning" "disk" "LBlockLog$Disk;") (by decide +kernel)) (fun _ h9 => h9) rfl dX3_move_11 ?_
    refine lv_iload_n hx hb dX3_move_14 rfl (lv_at hl 0 rfl) ?_
    refine lv_iconst (v := 0) hx hb dX3_move_15 (by decide) ?_
    refine lv_sipush (v := 128) hx hb dX3_move_16 (by decide) ?_
    have hFc := vfree ((cw_D hD : va_D A (cw_W c kc st lg ai al R)) : va_D A (cw_W c kc st lg ai al R)) hS hA
    refine va_calli (va_runV (As := [.int v_1, .int (0 : Int32), .int (128 : Int32)]) (rest := []) ⟨hx, hb, hml, hown, hts⟩ (v_X1_eraseRows l dC dI c kc st lg ai al R v_1 (0 : Int32) (128 : Int32) _ (show 0 ≤ (st 9).toInt by omega) (show (st 9).toInt ≤ 1 by omega) (by omega) (by omega) (by omega) (by omega) (by omega) (show aR (ai 7) 8224 (-128) 127 from hR7)) (cwV 3 hts gX3_move_X1_eraseRows rfl rfl rfl (by decide +kernel) ⟨Nat.le_of_ble_eq_true rfl, Nat.le_of_ble_eq_true rfl⟩) ⟨fun a U g mk q => by obtain ⟨q0, q1, qP, qK, qD⟩ := q; exact ⟨q0, q1, qP, va_K.moved (u := U) (U := U.calling g mk a) (Vm.Alike.refl U.vm) qK, qD⟩, va_recv hK hP (ci := 3) (q := (RX1, TX1, 7)) rfl (q0 := 2) rfl, fun U hU hW => ⟨rfl, by rw [hU], by rw [hU]; exact hP, va_K.moved hW.alike hK, ((cw_D hD : va_D A (cw_W c kc st lg ai al R))).weaken (fun _ _ _ _ => trivial)⟩⟩ rfl rfl hl.1 rfl (lv_room (Nat.le_of_ble_eq_true rfl)) dX3_move_19 ⟨Nat.le_of_ble_eq_true rfl, Nat.le_of_ble_eq_true rfl⟩) hS (fun q _ h => hFc q h) hFc (fun r_2 ur_2 t H1 locs ht hvm er_2 hB hz1 hk1 hS => ?_)
    subst er_2
    obtain ⟨x9_2, x10_2, x11_2, f7_2, f8_2, k_3, k_4, k_5, k_6, hR7, hP1⟩ := hB
    rw [ht] at hP1
    clear hFc hz1 hk1 hvm hP
    subst ht
    have hP := hP1
    clear hP1
    generalize t.heap = H at hP hS ⊢
    have hP : va_P (dC, dI) vwCl (cw_W c kc (rU (rU (rU st 9 x9_2) 10 x10_2) 11 x11_2) lg (rU (rU ai 7 f7_2) 8 f8_2) al R) H := hP
    have k_5 : 0 ≤ x9_2.toInt := k_5
    have k_6 : x9_2.toInt ≤ 1 := k_6
    have hR7 : aR f7_2 8224 (-128) 127 := hR7
    rcases iv_01 (a := r_2) (by omega) (by omega) with b_7 | b_7
    · skip
      have ib_7 := iv_eq b_7
      rw [b_7]
      refine lv_if_ne (tgt := 27) hx hb dX3_move_22 (by decide) (fun c_8 => ?_) (fun c_8 => ?_)
      · skip
        have ic_8 := iv_ne c_8
        exfalso
        omega
      · skip
        have ic_8 := iv_eq c_8
        refine lv_iconst (v := 0) hx hb dX3_move_25 (by decide) ?_
        exact W.zret hx hb hr rfl (fun t ht hW => ⟨⟨_, _, rfl, rfl, x9_2, x10_2, x11_2, st 15, st 16, st 17, f7_2, f8_2, ai 14, (by omega), (by omega), (by omega), (by omega), (by omega), (by omega), (by omega), (by omega), hR7, by rw [ht]; exact hP⟩, hS.F ht⟩) hS.2.2 dX3_move_26
    · skip
      have ib_7 := iv_eq b_7
      rw [b_7]
      refine lv_if_ne (tgt := 27) hx hb dX3_move_22 (by decide) (fun c_9 => ?_) (fun c_9 => ?_)
      · skip
        have ic_9 := iv_ne c_9
        refine lv_aload_n hx hb dX3_move_27 rfl (lv_at hl 1 rfl) ?_
        refine lv_iload_n hx hb dX3_move_28 rfl (lv_at hl 2 rfl) ?_
        refine lv_iload_n hx hb dX3_move_29 rfl (lv_at hl 0 rfl) ?_
        have hFc := vfree ((cw_D hD : va_D A (cw_W c kc (rU (rU (rU st 9 x9_2) 10 x10_2) 11 x11_2) lg (rU (rU ai 7 f7_2) 8 f8_2) al R)) : va_D A (cw_W c kc (rU (rU (rU st 9 x9_2) 10 x10_2) 11 x11_2) lg (rU (rU ai 7 f7_2) 8 f8_2) al R)) hS hA
        refine va_calli (va_runV (As := [.int p0, .int v_1]) (rest := []) ⟨hx, hb, hml, hown, hts⟩ (v_X3_writeVersion l dC dI c kc (rU (rU (rU st 9 x9_2) 10 x10_2) 11 x11_2) lg (rU (rU ai 7 f7_2) 8 f8_2) al R p0 v_1 _ (show 0 ≤ x9_2.toInt by omega) (show x9_2.toInt ≤ 1 by omega) (show 0 ≤ (st 26).toInt by omega) (show (st 26).toInt ≤ 128 by omega) (show 0 ≤ (st 28).toInt by omega) (show (st 28).toInt ≤ 1 by omega) (by omega) (by omega) (show aR f7_2 8224 (-128) 127 from hR7) (show aR (ai 23) 128 (0) 127 from hR23)) (cwV 2 hts gX3_move_X3_writeVersion rfl rfl rfl (by decide +kernel) ⟨Nat.le_of_ble_eq_true rfl, Nat.le_of_ble_eq_true rfl⟩) ⟨fun a U g mk q => by obtain ⟨q0, q1, qP, qK, qD, qG⟩ := q; exact ⟨q0, q1, qP, va_K.moved (u := U) (U := U.calling g mk a) (Vm.Alike.refl U.vm) qK, qD, qG.same rfl rfl⟩, va_recv hK hP (ci := 5) (q := (RX3, TX3, 4)) rfl (q0 := 6) rfl, fun U hU hW => ⟨rfl, by rw [hU], by rw [hU]; exact hP, va_K.moved hW.alike hK, ((cw_D hD : va_D A (cw_W c kc (rU (rU (rU st 9 x9_2) 10 x10_2) 11 x11_2) lg (rU (rU ai 7 f7_2) 8 f8_2) al R))).weaken (fun _ _ _ _ => trivial), hG.go hW hU hS hFc⟩⟩ rfl rfl hl.1 rfl (lv_room (Nat.le_of_ble_eq_true rfl)) dX3_move_30 ⟨Nat.le_of_ble_eq_true rfl, Nat.le_of_ble_eq_true rfl⟩) hS (fun q _ h => hFc q h) hFc (fun r_10 ur_10 t H1 locs ht hvm er_10 hB hz1 hk1 hS => ?_)
        subst er_10
        obtain ⟨x9_10, x10_10, x11_10, f7_10, f8_10, f14_10, k_11, k_12, k_13, k_14, hR7, hwv, hP1⟩ := hB
        rw [ht] at hP1
        clear hFc hz1 hk1 hvm hP
        subst ht
        have hP := hP1
        clear hP1
        generalize t.heap = H at hP hS ⊢
        have hP : va_P (dC, dI) vwCl (cw_W c kc (rU (rU (rU st 9 x9_10) 10 x10_10) 11 x11_10) lg (rU (rU (rU ai 7 f7_10) 8 f8_10) 14 f14_10) al R) H := hP
        have k_13 : 0 ≤ x9_10.toInt := k_13
        have k_14 : x9_10.toInt ≤ 1 := k_14
        have hR7 : aR f7_10 8224 (-128) 127 := hR7
        have hwv : r_10.toInt ≠ -4 → r_10.toInt = 1 + (cntL (al 24) 16 : Int) := hwv
        refine lv_istore_n (lv' := [(3, .int r_10), (2, .int v_1), (0, .ref (c 106)), (1, .int p0)]) hx hb dX3_move_33 rfl hl (by decide) rfl (fun ls hl => ?_)
        refine lv_iload_n hx hb dX3_move_34 rfl (lv_at hl 0 rfl) ?_
        refine lv_bipush (v := (-4)) hx hb dX3_move_35 (by decide) ?_
        refine lv_icmp_ne (tgt := 45) hx hb dX3_move_37 (by decide) (fun c_15 => ?_) (fun c_15 => ?_)
        · skip
          have ic_15 := iv_ne c_15
          refine lv_aload_n hx hb dX3_move_45 rfl (lv_at hl 2 rfl) ?_
          refine lv_iload_n hx hb dX3_move_46 rfl (lv_at hl 0 rfl) ?_
          refine lv_iload_n hx hb dX3_move_47 rfl (lv_at hl 1 rfl) ?_
          have hFc := vfree ((cw_D hD : va_D A (cw_W c kc (rU (rU (rU st 9 x9_10) 10 x10_10) 11 x11_10) lg (rU (rU (rU ai 7 f7_10) 8 f8_10) 14 f14_10) al R)) : va_D A (cw_W c kc (rU (rU (rU st 9 x9_10) 10 x10_10) 11 x11_10) lg (rU (rU (rU ai 7 f7_10) 8 f8_10) 14 f14_10) al R)) hS hA
          refine va_calli (va_runV (As := [.int r_10, .int v_1]) (rest := []) ⟨hx, hb, hml, hown, hts⟩ (v_X3_copyKept l dC dI c kc (rU (rU (rU st 9 x9_10) 10 x10_10) 11 x11_10) lg (rU (rU (rU ai 7 f7_10) 8 f8_10) 14 f14_10) al R r_10 v_1 _ (show 0 ≤ x9_10.toInt by omega) (show x9_10.toInt ≤ 1 by omega) (show 0 ≤ (st 15).toInt by omega) (show (st 15).toInt ≤ 1 by omega) (show 0 ≤ (st 17).toInt by omega) (show (st 17).toInt ≤ 128 by omega) (by omega) (by omega) (by omega) (by omega) (show aR f7_10 8224 (-128) 127 from hR7) (show r_10.toInt + (cntZ (ai 30) (st 17).toInt.toNat : Int) ≤ 128 from (by have q := hwv (by omega); omega))) (cwV 2 hts gX3_move_X3_copyKept rfl rfl rfl (by decide +kernel) ⟨Nat.le_of_ble_eq_true rfl, Nat.le_of_ble_eq_true rfl⟩) ⟨fun a U g mk q => by obtain ⟨q0, q1, qP, qK, qD, qG⟩ := q; exact ⟨q0, q1, qP, va_K.moved (u := U) (U := U.calling g mk a) (Vm.Alike.refl U.vm) qK, qD, qG.same rfl rfl⟩, va_recv hK hP (ci := 5) (q := (RX3, TX3, 4)) rfl (q0 := 6) rfl, fun U hU hW => ⟨rfl, by rw [hU], by rw [hU]; exact hP, va_K.moved hW.alike hK, ((cw_D hD : va_D A (cw_W c kc (rU (rU (rU st 9 x9_10) 10 x10_10) 11 x11_10) lg (rU (rU (rU ai 7 f7_10) 8 f8_10) 14 f14_10) al R))).weaken (fun _ _ _ _ => trivial), hG.go hW hU hS hFc⟩⟩ rfl rfl hl.1 rfl (lv_room (Nat.le_of_ble_eq_true rfl)) dX3_move_48 ⟨Nat.le_of_ble_eq_true rfl, Nat.le_of_ble_eq_true rfl⟩) hS (fun q _ h => hFc q h) hFc (fun r_16 ur_16 t H1 locs ht hvm er_16 hB hz1 hk1 hS => ?_)
          subst er_16
          obtain ⟨x9_16, x10_16, x11_16, f7_16, f8_16, f14_16, k_17, k_18, k_19, hR7, hP1⟩ := hB
          rw [ht] at hP1
          clear hFc hz1 hk1 hvm hP
          subst ht
          have hP := hP1
          clear hP1
          generalize t.heap = H at hP hS ⊢
          have hP : va_P (dC, dI) vwCl (cw_W c kc (rU (rU (rU st 9 x9_16) 10 x10_16) 11 x11_16) lg (rU (rU (rU ai 7 f7_16) 8 f8_16) 14 f14_16) al R) H := hP
          have k_18 : 0 ≤ x9_16.toInt := k_18
          have k_19 : x9_16.toInt ≤ 1 := k_19
          have hR7 : aR f7_16 8224 (-128) 127 := hR7
          refine lv_istore (lv' := [(4, .int r_16), (3, .int r_10), (2, .int v_1), (0, .ref (c 106)), (1, .int p0)]) hx hb dX3_move_51 hl (by decide) rfl (fun ls hl => ?_)
          refine lv_iload hx hb dX3_move_53 (lv_at hl 0 rfl) ?_
          refine lv_bipush (v := (-4)) hx hb dX3_move_55 (by decide) ?_
          refine lv_icmp_ne (tgt := 62) hx hb dX3_move_57 (by decide) (fun c_20 => ?_) (fun c_20 => ?_)
          · skip
            have ic_20 := iv_ne c_20
            refine lv_aload_n hx hb dX3_move_62 rfl (lv_at hl 3 rfl) ?_
            refine va_get (D := (dC, dI)) (ci := 5) (v := .ref (c 104)) (C := RX3) (T := TX3) (N := 4) hx hb hts hin_X3 hown hK hP 6 rfl rfl 1 (by decide) (hts (.fieldLink RX3 15 "BlockLog$Pruning" "rows" "LBlockLog$Rows;") (by decide +kernel)) (fun _ h9 => h9) rfl dX3_move_63 ?_
            refine va_getN (D := (dC, dI)) (ci := 6) (v := .int (st 16)) (C := RX4) (T := TX4) (N := 6) hx hb hts hin_X4 hown hK hP 4 rfl rfl 3 (by decide) (va_Nw.use rfl (hGW.1 ("BlockLog$Pruning", 101, "BlockLog$Rows", "generation", "I", "BlockLog") (by decide +kernel))) (fun _ h9 => h9) rfl dX3_move_66 ?_
            refine lv_iconst (v := 1) hx hb dX3_move_69 (by decide) ?_
            refine lv_iadd hx hb dX3_move_70 ?_
            refine lv_topi (fun v_21 ev_21 => ?_)
            clear ev_21
            refine lv_istore (lv' := [(5, .int v_21), (4, .int r_16), (3, .int r_10), (2, .int v_1), (0, .ref (c 106)), (1, .int p0)]) hx hb dX3_move_71 hl (by decide) rfl (fun ls hl => ?_)
            refine lv_aload_n hx hb dX3_move_73 rfl (lv_at hl 4 rfl) ?_
            refine va_get (D := (dC, dI)) (ci := 5) (v := .ref (c 104)) (C := RX3) (T := TX3) (N := 4) hx hb hts hin_X3 hown hK hP 6 rfl rfl 1 (by decide) (hts (.fieldLink RX3 15 "BlockLog$Pruning" "rows" "LBlockLog$Rows;") (by decide +kernel)) (fun _ h9 => h9) rfl dX3_move_74 ?_
            refine lv_iload hx hb dX3_move_77 (lv_at hl 0 rfl) ?_
            have hFc := vfree ((cw_D hD : va_D A (cw_W c kc (rU (rU (rU st 9 x9_16) 10 x10_16) 11 x11_16) lg (rU (rU (rU ai 7 f7_16) 8 f8_16) 14 f14_16) al R)) : va_D A (cw_W c kc (rU (rU (rU st 9 x9_16) 10 x10_16) 11 x11_16) lg (rU (rU (rU ai 7 f7_16) 8 f8_16) 14 f14_16) al R)) hS hA
            refine va_callv (va_runV (As := [.int v_21]) (rest := []) ⟨hx, hb, hml, hown, hts⟩ (v_X4_drawHead l dC dI c kc (rU (rU (rU st 9 x9_16) 10 x10_16) 11 x11_16) lg (rU (rU (rU ai 7 f7_16) 8 f8_16) 14 f14_16) al R v_21 _ ) (cwV 1 hts gX3_move_X4_drawHead rfl rfl rfl (by decide +kernel) ⟨Nat.le_of_ble_eq_true rfl, Nat.le_of_ble_eq_true rfl⟩) ⟨fun a U g mk q => by obtain ⟨q0, q1, qP, qK, qD⟩ := q; exact ⟨q0, q1, qP, va_K.moved (u := U) (U := U.calling g mk a) (Vm.Alike.refl U.vm) qK, qD⟩, va_recv hK hP (ci := 6) (q := (RX4, TX4, 6)) rfl (q0 := 4) rfl, fun U hU hW => ⟨rfl, by rw [hU], by rw [hU]; exact hP, va_K.moved hW.alike hK, ((cw_D hD : va_D A (cw_W c kc (rU (rU (rU st 9 x9_16) 10 x10_16) 11 x11_16) lg (rU (rU (rU ai 7 f7_16) 8 f8_16) 14 f14_16) al R))).weaken (fun _ _ _ _ => trivial)⟩⟩ rfl rfl hl.1 rfl (lv_room (Nat.le_of_ble_eq_true rfl)) dX3_move_79 ⟨Nat.le_of_ble_eq_true rfl, Nat.le_of_ble_eq_true rfl⟩) hS (fun q _ h => hFc q h) hFc (fun ur_22 t H1 locs ht hvm er_22 hB hz1 hk1 hS => ?_)
            obtain ⟨f14_22, hP1⟩ := hB
            rw [ht] at hP1
            clear hFc hz1 hk1 hvm hP
            subst ht
            have hP := hP1
            clear hP1
            generalize t.heap = H at hP hS ⊢
            have hP : va_P (dC, dI) vwCl (cw_W c kc (rU (rU (rU st 9 x9_16) 10 x10_16) 11 x11_16) lg (rU (rU (rU ai 7 f7_16) 8 f8_16) 14 f14_22) al R) H := hP
            refine lv_aload_n hx hb dX3_move_82 rfl (lv_at hl 4 rfl) ?_
            refine va_get (D := (dC, dI)) (ci := 5) (v := .ref (c 102)) (C := RX3) (T := TX3) (N := 4) hx hb hts hin_X3 hown hK hP 6 rfl rfl 0 (by decide) (hts (.fieldLink RX3 9 "BlockLog$Pruning" "disk" "LBlockLog$Disk;") (by decide +kernel)) (fun _ h9 => h9) rfl dX3_move_83 ?_
            refine lv_bipush (v := 16) hx hb dX3_move_86 (by decide) ?_
            refine lv_iload_n hx hb dX3_move_88 rfl (lv_at hl 3 rfl) ?_
            refine lv_imul hx hb dX3_move_89 ?_
            refine lv_topi (fun v_23 ev_23 => ?_)
            have rg2 := iv_rng v_1
            have hv_23 : v_23.toInt = 16 * v_1.toInt := by rw [ev_23]; exact (iv_mulc z_16 (by omega) (by omega)).trans (by omega)
            clear ev_23
            refine lv_aload_n hx hb dX3_move_90 rfl (lv_at hl 4 rfl) ?_
            refine va_get (D := (dC, dI)) (ci := 5) (v := .ref (c 104)) (C := RX3) (T := TX3) (N := 4) hx hb hts hin_X3 hown hK hP 6 rfl rfl 1 (by decide) (hts (.fieldLink RX3 15 "BlockLog$Pruning" "rows" "LBlockLog$Rows;") (by decide +kernel)) (fun _ h9 => h9) rfl dX3_move_91 ?_
            refine va_getN (D := (dC, dI)) (ci := 6) (v := .ref (c 14)) (C := RX4) (T := TX4) (N := 6) hx hb hts hin_X4 hown hK hP 4 rfl rfl 1 (by decide) (va_Nw.use rfl (hGW.1 ("BlockLog$Pruning", 107, "BlockLog$Rows", "image", "[B", "BlockLog") (by decide +kernel))) (fun _ h9 => h9) rfl dX3_move_94 ?_
            refine lv_bipush (v := 16) hx hb dX3_move_97 (by decide) ?_
            have hFc := vfree ((cw_D hD : va_D A (cw_W c kc (rU (rU (rU st 9 x9_16) 10 x10_16) 11 x11_16) lg (rU (rU (rU ai 7 f7_16) 8 f8_16) 14 f14_22) al R)) : va_D A (cw_W c kc (rU (rU (rU st 9 x9_16) 10 x10_16) 11 x11_16) lg (rU (rU (rU ai 7 f7_16) 8 f8_16) 14 f14_22) al R)) hS hA
            refine va_calli (va_runV (As := [.int v_23, .ref (c 14), .int (16 : Int32)]) (rest := []) ⟨hx, hb, hml, hown, hts⟩ (v_X1_writeLow l dC dI c kc (rU (rU (rU st 9 x9_16) 10 x10_16) 11 x11_16) lg (rU (rU (rU ai 7 f7_16) 8 f8_16) 14 f14_22) al R v_23 (16 : Int32) _ (show 0 ≤ x9_16.toInt by omega) (show x9_16.toInt ≤ 1 by omega) (by omega) (by omega) (by omega) (by omega) (show aR f7_16 8224 (-128) 127 from hR7)) (cwV 3 hts gX3_move_X1_writeLow rfl rfl rfl (by decide +kernel) ⟨Nat.le_of_ble_eq_true rfl, Nat.le_of_ble_eq_true rfl⟩) ⟨fun a U g mk q => by obtain ⟨q0, q1, qP, qK, qD⟩ := q; exact ⟨q0, q1, qP, va_K.moved (u := U) (U := U.calling g mk a) (Vm.Alike.refl U.vm) qK, qD⟩, va_recv hK hP (ci := 3) (q := (RX1, TX1, 7)) rfl (q0 := 2) rfl, fun U hU hW => ⟨rfl, by rw [hU], by rw [hU]; exact hP, va_K.moved hW.alike hK, ((cw_D hD : va_D A (cw_W c kc (rU (rU (rU st 9 x9_16) 10 x10_16) 11 x11_16) lg (rU (rU (rU ai 7 f7_16) 8 f8_16) 14 f14_22) al R))).weaken (fun _ _ _ _ => trivial)⟩⟩ rfl rfl hl.1 rfl (lv_room (Nat.le_of_ble_eq_true rfl)) dX3_move_99 ⟨Nat.le_of_ble_eq_true rfl, Nat.le_of_ble_eq_true rfl⟩) hS (fun q _ h => hFc q h) hFc (fun r_24 ur_24 t H1 locs ht hvm er_24 hB hz1 hk1 hS => ?_)
            subst er_24
            obtain ⟨x9_24, x10_24, x11_24, f7_24, f8_24, k_25, k_26, k_27, k_28, hR7, hP1⟩ := hB
            rw [ht] at hP1
            clear hFc hz1 hk1 hvm hP
            subst ht
            have hP := hP1
            clear hP1
            generalize t.heap = H at hP hS ⊢
            have hP : va_P (dC, dI) vwCl (cw_W c kc (rU (rU (rU st 9 x9_24) 10 x10_24) 11 x11_24) lg (rU (rU (rU ai 7 f7_24) 8 f8_24) 14 f14_22) al R) H := hP
            have k_27 : 0 ≤ x9_24.toInt := k_27
            have k_28 : x9_24.toInt ≤ 1 := k_28
            have hR7 : aR f7_24 8224 (-128) 127 := hR7
            rcases iv_01 (a := r_24) (by omega) (by omega) with b_29 | b_29
            · skip
              have ib_29 := iv_eq b_29
              rw [b_29]
              refine lv_if_ne (tgt := 107) hx hb dX3_move_102 (by decide) (fun c_30 => ?_) (fun c_30 => ?_)
              · skip
                have ic_30 := iv_ne c_30
                exfalso
                omega
              · skip
                have ic_30 := iv_eq c_30
                refine lv_iconst (v := 0) hx hb dX3_move_105 (by decide) ?_
                exact W.zret hx hb hr rfl (fun t ht hW => ⟨⟨_, _, rfl, rfl, x9_24, x10_24, x11_24, st 15, st 16, st 17, f7_24, f8_24, f14_22, (by omega), (by omega), (by omega), (by omega), (by omega), (by omega), (by omega), (by omega), hR7, by rw [ht]; exact hP⟩, hS.F ht⟩) hS.2.2 dX3_move_106
            · skip
              have ib_29 := iv_eq b_29
              rw [b_29]
              refine lv_if_ne (tgt := 107) hx hb dX3_move_102 (by decide) (fun c_31 => ?_) (fun c_31 => ?_)
              · skip
                have ic_31 := iv_ne c_31
                refine lv_aload_n hx hb dX3_move_107 rfl (lv_at hl 4 rfl) ?_
                refine va_get (D := (dC, dI)) (ci := 5) (v := .ref (c 104)) (C := RX3) (T := TX3) (N := 4) hx hb hts hin_X3 hown hK hP 6 rfl rfl 1 (by decide) (hts (.fieldLink RX3 15 "BlockLog$Pruning" "rows" "LBlockLog$Rows;") (by decide +kernel)) (fun _ h9 => h9) rfl dX3_move_108 ?_
                refine lv_iload_n hx hb dX3_move_111 rfl (lv_at hl 3 rfl) ?_
                refine va_putN (D := (dC, dI)) (ci := 6) (v := .int v_1) (ty := .int) (C := RX4) (T := TX4) (N := 6) hx hb hts hin_X4 tyX4 tyX4_ok nmX4 hown hK hP (cw_D hD) hS 4 rfl rfl 2 (by decide) (va_Nw.use rfl (hGW.1 ("BlockLog$Pruning", 85, "BlockLog$Rows", "area", "I", "BlockLog") (by decide +kernel))) (fun _ h9 => h9) rfl (by decide +kernel) rfl rfl (Nat.le_of_ble_eq_true rfl) dX3_move_112 (fun H locs hP _ hS => ?_)
                have hP : va_P (dC, dI) vwCl (cw_W c kc (rU (rU (rU (rU st 9 x9_24) 10 x10_24) 11 x11_24) 15 v_1) lg (rU (rU (rU ai 7 f7_24) 8 f8_24) 14 f14_22) al R) H := hP
                refine lv_aload_n hx hb dX3_move_115 rfl (lv_at hl 4 rfl) ?_
                refine va_get (D := (dC, dI)) (ci := 5) (v := .ref (c 104)) (C := RX3) (T := TX3) (N := 4) hx hb hts hin_X3 hown hK hP 6 rfl rfl 1 (by decide) (hts (.fieldLink RX3 15 "BlockLog$Pruning" "rows" "LBlockLog$Rows;") (by decide +kernel)) (fun _ h9 => h9) rfl dX3_move_116 ?_
                refine lv_iload hx hb dX3_move_119 (lv_at hl 0 rfl) ?_
                refine va_putN (D := (dC, dI)) (ci := 6) (v := .int v_21) (ty := .int) (C := RX4) (T := TX4) (N := 6) hx hb hts hin_X4 tyX4 tyX4_ok nmX4 hown hK hP (cw_D hD) hS 4 rfl rfl 3 (by decide) (va_Nw.use rfl (hGW.1 ("BlockLog$Pruning", 101, "BlockLog$Rows", "generation", "I", "BlockLog") (by decide +kernel))) (fun _ h9 => h9) rfl (by decide +kernel) rfl rfl (Nat.le_of_ble_eq_true rfl) dX3_move_121 (fun H locs hP _ hS => ?_)
                have hP : va_P (dC, dI) vwCl (cw_W c kc (rU (rU (rU (rU (rU st 9 x9_24) 10 x10_24) 11 x11_24) 15 v_1) 16 v_21) lg (rU (rU (rU ai 7 f7_24) 8 f8_24) 14 f14_22) al R) H := hP
                refine lv_aload_n hx hb dX3_move_124 rfl (lv_at hl 4 rfl) ?_
                refine va_get (D := (dC, dI)) (ci := 5) (v := .ref (c 104)) (C := RX3) (T := TX3) (N := 4) hx hb hts hin_X3 hown hK hP 6 rfl rfl 1 (by decide) (hts (.fieldLink RX3 15 "BlockLog$Pruning" "rows" "LBlockLog$Rows;") (by decide +kernel)) (fun _ h9 => h9) rfl dX3_move_125 ?_
                refine lv_iload hx hb dX3_move_128 (lv_at hl 1 rfl) ?_
                refine va_putN (D := (dC, dI)) (ci := 6) (v := .int r_16) (ty := .int) (C := RX4) (T := TX4) (N := 6) hx hb hts hin_X4 tyX4 tyX4_ok nmX4 hown hK hP (cw_D hD) hS 4 rfl rfl 4 (by decide) (va_Nw.use rfl (hGW.1 ("BlockLog$Pruning", 33, "BlockLog$Rows", "count", "I", "BlockLog") (by decide +kernel))) (fun _ h9 => h9) rfl (by decide +kernel) rfl rfl (Nat.le_of_ble_eq_true rfl) dX3_move_130 (fun H locs hP _ hS => ?_)
                have hP : va_P (dC, dI) vwCl (cw_W c kc (rU (rU (rU (rU (rU (rU st 9 x9_24) 10 x10_24) 11 x11_24) 15 v_1) 16 v_21) 17 r_16) lg (rU (rU (rU ai 7 f7_24) 8 f8_24) 14 f14_22) al R) H := hP
                refine lv_iconst (v := 1) hx hb dX3_move_133 (by decide) ?_
                exact W.zret hx hb hr rfl (fun t ht hW => ⟨⟨_, _, rfl, rfl, x9_24, x10_24, x11_24, v_1, v_21, r_16, f7_24, f8_24, f14_22, (by omega), (by omega), (by omega), (by omega), (by omega), (by omega), (by omega), (by omega), hR7, by rw [ht]; exact hP⟩, hS.F ht⟩) hS.2.2 dX3_move_134
              · skip
                have ic_31 := iv_eq c_31
                exfalso
                omega
          · skip
            have ic_20 := iv_eq c_20
            refine lv_iconst (v := 0) hx hb dX3_move_60 (by decide) ?_
            exact W.zret hx hb hr rfl (fun t ht hW => ⟨⟨_, _, rfl, rfl, x9_16, x10_16, x11_16, st 15, st 16, st 17, f7_16, f8_16, f14_16, (by omega), (by omega), (by omega), (by omega), (by omega), (by omega), (by omega), (by omega), hR7, by rw [ht]; exact hP⟩, hS.F ht⟩) hS.2.2 dX3_move_61
        · skip
          have ic_15 := iv_eq c_15
          refine lv_bipush (v := (-4)) hx hb dX3_move_40 (by decide) ?_
          refine lv_goto (tgt := 51) hx hb dX3_move_42 (by decide) ?_
          refine lv_istore (lv' := [(4, .int (-4 : Int32)), (3, .int r_10), (2, .int v_1), (0, .ref (c 106)), (1, .int p0)]) hx hb dX3_move_51 hl (by decide) rfl (fun ls hl => ?_)
          refine lv_iload hx hb dX3_move_53 (lv_at hl 0 rfl) ?_
          refine lv_bipush (v := (-4)) hx hb dX3_move_55 (by decide) ?_
          refine lv_icmp_ne (tgt := 62) hx hb dX3_move_57 (by decide) (fun c_32 => ?_) (fun c_32 => ?_)
          · skip
            have ic_32 := iv_ne c_32
            exfalso
            omega
          · skip
            have ic_32 := iv_eq c_32
            refine lv_iconst (v := 0) hx hb dX3_move_60 (by decide) ?_
            exact W.zret hx hb hr rfl (fun t ht hW => ⟨⟨_, _, rfl, rfl, x9_10, x10_10, x11_10, st 15, st 16, st 17, f7_10, f8_10, f14_10, (by omega), (by omega), (by omega), (by omega), (by omega), (by omega), (by omega), (by omega), hR7, by rw [ht]; exact hP⟩, hS.F ht⟩) hS.2.2 dX3_move_61
      · skip
        have ic_9 := iv_eq c_9
        exfalso
        omega
  exact main s.heap [] hP hS
