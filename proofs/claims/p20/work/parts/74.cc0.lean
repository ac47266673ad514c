set_option maxHeartbeats 4000000 in
set_option maxRecDepth 100000 in
theorem v_X8_isHeight (l : Launch) (dC : Nat → ClassId) (dI : Nat → Nat → Nat) (p0 : Int32)  : Met l yX8_isHeight wsX8_isHeight ({ frames := 0, cells := 0, slots := 0, locals := 0 }) (va_Pc [.int p0] (fun U => True)) (vp_Si (fun r => (0 ≤ r.toInt) ∧ (r.toInt ≤ 1))) 0 0 (fun _ => False) := by
  refine Met.ofW (cc := cX8_isHeight) (maxL := 1) (ret := (some .boolean)) (by decide) rfl ?_
  intro p e s m args below meth cM s₁ B hml hv
  obtain ⟨rfl, -⟩ := hv
  have hx := B.exec
  have hb := B.bytes
  have hr := B.returns
  have hts := atoms_spec (ws := wsX8_isHeight) B.pre
  have hown : s.vm.findClass RX8 = some m.cls := findClass_of_methodNamed B.named
  have hl := lv_entry ([.int p0]) (n := 1) (Nat.le_of_ble_eq_true rfl)
  rw [lg_entry_eq]
  generalize (lg_sl ([.int p0]) ++ List.replicate (1 - (lg_sl ([.int p0])).length) Slot.unset).toArray = ls at hl ⊢
  have hl : lv_has ls 1 [(0, .int p0)] := hl
  have z_0 : (0 : Int32).toInt = 0 := by decide
  have z_1 : (1 : Int32).toInt = 1 := by decide
  have z_1000000 : (1000000 : Int32).toInt = 1000000 := by decide
  refine lv_iload_n hx hb dX8_isHeight_0 rfl (lv_at hl 0 rfl) ?_
  refine lv_iconst (v := 1) hx hb dX8_isHeight_1 (by decide) ?_
  refine lv_icmp_lt (tgt := 15) hx hb dX8_isHeight_2 (by decide) (fun c_1 => ?_) (fun c_1 => ?_)
  · skip
    have ic_1 := iv_lt c_1
    refine lv_iconst (v := 0) hx hb dX8_isHeight_15 (by decide) ?_
    exact W.zret hx hb hr rfl (fun t ht hW => ⟨_, rfl, ⟨(by omega), (by omega)⟩, ht⟩) (fun q h => by cases h) dX8_isHeight_16
  · skip
    have ic_1 := iv_nlt c_1
    refine lv_iload_n hx hb dX8_isHeight_5 rfl (lv_at hl 0 rfl) ?_
    refine lv_ldc hx hb hown (hts (.constant RX8 163 (1000000)) (by decide +kernel)) dX8_isHeight_6 ?_
    refine lv_icmp_gt (tgt := 15) hx hb dX8_isHeight_8 (by decide) (fun c_2 => ?_) (fun c_2 => ?_)
    · skip
      have ic_2 := iv_lt c_2
      refine lv_iconst (v := 0) hx hb dX8_isHeight_15 (by decide) ?_
      exact W.zret hx hb hr rfl (fun t ht hW => ⟨_, rfl, ⟨(by omega), (by omega)⟩, ht⟩) (fun q h => by cases h) dX8_isHeight_16
    · skip
      have ic_2 := iv_nlt c_2
      refine lv_iconst (v := 1) hx hb dX8_isHeight_11 (by decide) ?_
      refine lv_goto (tgt := 16) hx hb dX8_isHeight_12 (by decide) ?_
      exact W.zret hx hb hr rfl (fun t ht hW => ⟨_, rfl, ⟨(by omega), (by omega)⟩, ht⟩) (fun q h => by cases h) dX8_isHeight_16

set_option maxHeartbeats 4000000 in
set_option maxRecDepth 100000 in
theorem v_X6_isWhole (l : Launch) (dC : Nat → ClassId) (dI : Nat → Nat → Nat) (c : Nat → Nat) (kc : Nat → ClassId) (st : Nat → Int32) (lg : Nat → Int64) (ai : Nat → Nat → Int32) (al : Nat → Nat → Int64) (R : va_W) (p0 : Int32) (hf15a : 0 ≤ (st 15).toInt) (hf15b : (st 15).toInt ≤ 1) (hf25a : 0 ≤ (st 25).toInt) (hf25b : (st 25).toInt ≤ 128) (hq0 : 0 ≤ p0.toInt) (hq1 : p0.toInt ≤ 127) (hR7 : aR (ai 7) 8224 (-128) 127) : Met l yX6_isWhole wsX6_isWhole ({ frames := 2, cells := 0, slots := 0, locals := 44 }) (va_Pc [.ref (c 105), .int p0] (fun U => va_P (dC, dI) vwCl (cw_W c kc st lg ai al R) U.heap ∧ va_K (dC, dI) vwCl (cw_T kc) U ∧ gx_W U)) (vp_Si (fun r => (r.toInt = 1 → ((0 ≤ (cB (ai 7) (st 15) p0).toInt ∧ (cB (ai 7) (st 15) p0).toInt ≤ 16) ∧ p0.toInt + (cB (ai 7) (st 15) p0).toInt < (st 25).toInt)) ∧ (0 ≤ r.toInt) ∧ (r.toInt ≤ 1))) 0 0 (fun _ => False) := by
  refine Met.ofW (cc := cX6_isWhole) (maxL := 5) (ret := (some .boolean)) (by decide) rfl ?_
  intro p e s m args below meth cM s₁ B hml hv
  obtain ⟨rfl, hP, hK, hG⟩ := hv
  have hx := B.exec
  have hb := B.bytes
  have hr := B.returns
  have hts := atoms_spec (ws := wsX6_isWhole) B.pre
  have hown : s.vm.findClass RX6 = some m.cls := findClass_of_methodNamed B.named
  have hGW := hG
  have hl := lv_entry ([.ref (c 105), .int p0]) (n := 5) (Nat.le_of_ble_eq_true rfl)
  rw [lg_entry_eq]
  generalize (lg_sl ([.ref (c 105), .int p0]) ++ List.replicate (5 - (lg_sl ([.ref (c 105), .int p0])).length) Slot.unset).toArray = ls at hl ⊢
  have hl : lv_has ls 5 [(0, .ref (c 105)), (1, .int p0)] := hl
  have z_0 : (0 : Int32).toInt = 0 := by decide
  have z_1 : (1 : Int32).toInt = 1 := by decide
  have z_3 : (3 : Int32).toInt = 3 := by decide
  have z_16 : (16 : Int32).toInt = 16 := by decide
  have hin_X6 : ∀ w ∈ u_ws RX6 TX6 12, w ∈ wsX6_isWhole := by decide +kernel
  refine lv_aload_n hx hb dX6_isWhole_0 rfl (lv_at hl 0 rfl) ?_
  refine va_get (D := (dC, dI)) (ci := 8) (v := .ref (c 104)) (C := RX6) (T := TX6) (N := 12) hx hb hts hin_X6 hown hK hP 5 rfl rfl 0 (by decide) (hts (.fieldLink RX6 9 "BlockLog$Story" "rows" "LBlockLog$Rows;") (by decide +kernel)) (fun _ h9 => h9) rfl dX6_isWhole_1 ?_
  refine lv_iload_n hx hb dX6_isWhole_4 rfl (lv_at hl 1 rfl) ?_
  refine vp_callSi (va_Run.run (va_runV (As := [.int p0]) (rest := []) ⟨hx, hb, hml, hown, hts⟩ (v_X4_b l dC dI c kc st lg ai al R p0 (show 0 ≤ (st 15).toInt by omega) (show (st 15).toInt ≤ 1 by omega) (by omega) (by omega)) (cwV 1 hts gX6_isWhole_X4_b rfl rfl rfl (by decide +kernel) ⟨Nat.le_of_ble_eq_true rfl, Nat.le_of_ble_eq_true rfl⟩) ⟨fun a U g mk q => by obtain ⟨q0, qP, qK, qG⟩ := q; exact ⟨q0, qP, va_K.moved (u := U) (U := U.calling g mk a) (Vm.Alike.refl U.vm) qK, qG.same rfl⟩, va_recv hK hP (ci := 6) (q := (RX4, TX4, 6)) rfl (q0 := 4) rfl, fun U hU hW => ⟨rfl, by rw [hU]; exact hP, va_K.moved hW.alike hK, hGW.warm hW⟩⟩ rfl rfl hl.1 rfl (lv_room (Nat.le_of_ble_eq_true rfl)) dX6_isWhole_5 ⟨Nat.le_of_ble_eq_true rfl, Nat.le_of_ble_eq_true rfl⟩)) (fun r_1 er_1 => ?_)
  have k_2 := er_1
  have k_2 : r_1.toInt = (cB (ai 7) (st 15) p0).toInt := k_2
  refine lv_istore_n (lv' := [(2, .int r_1), (0, .ref (c 105)), (1, .int p0)]) hx hb dX6_isWhole_8 rfl hl (by decide) rfl (fun ls hl => ?_)
  refine lv_aload_n hx hb dX6_isWhole_9 rfl (lv_at hl 1 rfl) ?_
  refine va_get (D := (dC, dI)) (ci := 8) (v := .ref (c 104)) (C := RX6) (T := TX6) (N := 12) hx hb hts hin_X6 hown hK hP 5 rfl rfl 0 (by decide) (hts (.fieldLink RX6 9 "BlockLog$Story" "rows" "LBlockLog$Rows;") (by decide +kernel)) (fun _ h9 => h9) rfl dX6_isWhole_10 ?_
  refine lv_iload_n hx hb dX6_isWhole_13 rfl (lv_at hl 2 rfl) ?_
  refine vp_callSi (va_Run.run (va_runV (As := [.int p0]) (rest := []) ⟨hx, hb, hml, hown, hts⟩ (v_X4_a l dC dI c kc st lg ai al R p0 (show 0 ≤ (st 15).toInt by omega) (show (st 15).toInt ≤ 1 by omega) (by omega) (by omega)) (cwV 1 hts gX6_isWhole_X4_a rfl rfl rfl (by decide +kernel) ⟨Nat.le_of_ble_eq_true rfl, Nat.le_of_ble_eq_true rfl⟩) ⟨fun a U g mk q => by obtain ⟨q0, qP, qK, qG⟩ := q; exact ⟨q0, qP, va_K.moved (u := U) (U := U.calling g mk a) (Vm.Alike.refl U.vm) qK, qG.same rfl⟩, va_recv hK hP (ci := 6) (q := (RX4, TX4, 6)) rfl (q0 := 4) rfl, fun U hU hW => ⟨rfl, by rw [hU]; exact hP, va_K.moved hW.alike hK, hGW.warm hW⟩⟩ rfl rfl hl.1 rfl (lv_room (Nat.le_of_ble_eq_true rfl)) dX6_isWhole_14 ⟨Nat.le_of_ble_eq_true rfl, Nat.le_of_ble_eq_true rfl⟩)) (fun r_3 er_3 => ?_)
  refine vp_callSi (va_Run.run (va_runSN (As := [.int r_3]) (rest := []) ⟨hx, hb, hml, hown, hts⟩ (v_X8_isHeight l dC dI r_3 ) ⟨va_cnB 1 hts ggX6_isWhole_X8_isHeight rfl rfl rfl (hGW.2.2.2.2.2.1 ("BlockLog$Story", 103, yX8_isHeight, "BlockLog") (by decide +kernel)) (hts (.initialized RX8) (by decide +kernel)) (by decide +kernel) ⟨Nat.le_of_ble_eq_true rfl, Nat.le_of_ble_eq_true rfl⟩, hts (.static yX8_isHeight) (by decide +kernel), trivial⟩ ⟨fun a U g mk q => q, fun U hU hW => ⟨rfl, trivial⟩⟩ rfl rfl hl.1 rfl (lv_room (Nat.le_of_ble_eq_true rfl)) dX6_isWhole_17 ⟨Nat.le_of_ble_eq_true rfl, Nat.le_of_ble_eq_true rfl⟩)) (fun r_4 er_4 => ?_)
  obtain ⟨k_5, k_6⟩ := er_4
  rcases iv_01 (a := r_4) (by omega) (by omega) with b_7 | b_7
  · skip
    have ib_7 := iv_eq b_7
    rw [b_7]
    refine lv_if_eq (tgt := 43) hx hb dX6_isWhole_20 (by decide) (fun c_8 => ?_) (fun c_8 => ?_)
    · skip
      have ic_8 := iv_eq c_8
      refine lv_iconst (v := 0) hx hb dX6_isWhole_43 (by decide) ?_
      exact W.zret hx hb hr rfl (fun t ht hW => ⟨_, rfl, ⟨(by omega), (by omega), (by omega)⟩, ht⟩) (fun q h => by cases h) dX6_isWhole_44
    · skip
      have ic_8 := iv_ne c_8
      exfalso
      omega
  · skip
    have ib_7 := iv_eq b_7
    rw [b_7]
    refine lv_if_eq (tgt := 43) hx hb dX6_isWhole_20 (by decide) (fun c_9 => ?_) (fun c_9 => ?_)
    · skip
      have ic_9 := iv_eq c_9
      exfalso
      omega
    · skip
      have ic_9 := iv_ne c_9
      refine lv_iload_n hx hb dX6_isWhole_23 rfl (lv_at hl 0 rfl) ?_
      refine lv_if_lt (tgt := 43) hx hb dX6_isWhole_24 (by decide) (fun c_10 => ?_) (fun c_10 => ?_)
      · skip
        have ic_10 := iv_lt c_10
        refine lv_iconst (v := 0) hx hb dX6_isWhole_43 (by decide) ?_
        exact W.zret hx hb hr rfl (fun t ht hW => ⟨_, rfl, ⟨(by omega), (by omega), (by omega)⟩, ht⟩) (fun q h => by cases h) dX6_isWhole_44
      · skip
        have ic_10 := iv_nlt c_10
        refine lv_iload_n hx hb dX6_isWhole_27 rfl (lv_at hl 0 rfl) ?_
        refine lv_bipush (v := 16) hx hb dX6_isWhole_28 (by decide) ?_
        refine lv_icmp_gt (tgt := 43) hx hb dX6_isWhole_30 (by decide) (fun c_11 => ?_) (fun c_11 => ?_)
        · skip
          have ic_11 := iv_lt c_11
          refine lv_iconst (v := 0) hx hb dX6_isWhole_43 (by decide) ?_
          exact W.zret hx hb hr rfl (fun t ht hW => ⟨_, rfl, ⟨(by omega), (by omega), (by omega)⟩, ht⟩) (fun q h => by cases h) dX6_isWhole_44
        · skip
          have ic_11 := iv_nlt c_11
          refine lv_iload_n hx hb dX6_isWhole_33 rfl (lv_at hl 2 rfl) ?_
          refine lv_iload_n hx hb dX6_isWhole_34 rfl (lv_at hl 0 rfl) ?_
          refine lv_iadd hx hb dX6_isWhole_35 ?_
          refine lv_topi (fun v_12 ev_12 => ?_)
          have rg1 := iv_rng p0
          have rg2 := iv_rng r_1
          have hv_12 : v_12.toInt = p0.toInt + r_1.toInt := by rw [ev_12]; exact (iv_add (by omega) (by omega)).trans (by omega)
          clear ev_12
          refine lv_aload_n hx hb dX6_isWhole_36 rfl (lv_at hl 1 rfl) ?_
          refine va_get (D := (dC, dI)) (ci := 8) (v := .int (st 25)) (C := RX6) (T := TX6) (N := 12) hx hb hts hin_X6 hown hK hP 5 rfl rfl 7 (by decide) (hts (.fieldLink RX6 36 "BlockLog$Story" "heard" "I") (by decide +kernel)) (fun _ h9 => h9) rfl dX6_isWhole_37 ?_
          refine lv_icmp_lt (tgt := 45) hx hb dX6_isWhole_40 (by decide) (fun c_13 => ?_) (fun c_13 => ?_)
          · skip
            have ic_13 := iv_lt c_13
            refine lv_iload_n hx hb dX6_isWhole_45 rfl (lv_at hl 2 rfl) ?_
            refine lv_iconst (v := 1) hx hb dX6_isWhole_46 (by decide) ?_
            refine lv_iadd hx hb dX6_isWhole_47 ?_
            refine lv_topi (fun v_14 ev_14 => ?_)
            have hv_14 : v_14.toInt = p0.toInt + 1 := by rw [ev_14]; exact (iv_add (by omega) (by omega)).trans (by omega)
            clear ev_14
            refine lv_istore_n (lv' := [(3, .int v_14), (2, .int r_1), (0, .ref (c 105)), (1, .int p0)]) hx hb dX6_isWhole_48 rfl hl (by decide) rfl (fun ls hl => ?_)
            have loop49 : ∀ (n : Nat) (l3_49 : Int32) (ls : Array Slot), (p0.toInt + 1 ≤ l3_49.toInt) → (l3_49.toInt ≤ p0.toInt + r_1.toInt + 1) → (p0.toInt + r_1.toInt + 1 - l3_49.toInt : Int).toNat < n → lv_has ls 5 [(3, .int l3_49), (2, .int r_1), (0, .ref (c 105)), (1, .int p0)] → W p l e (headSpec wsX6_isWhole ({ frames := 2, cells := 0, slots := 0, locals := 44 })).room s m ([.ref (c 105), .int p0] : List Value).toArray below meth cM s.heap [] 0 0 (MQ below (vp_Si (fun r => (r.toInt = 1 → ((0 ≤ (cB (ai 7) (st 15) p0).toInt ∧ (cB (ai 7) (st 15) p0).toInt ≤ 16) ∧ p0.toInt + (cB (ai 7) (st 15) p0).toInt < (st 25).toInt)) ∧ (0 ≤ r.toInt) ∧ (r.toInt ≤ 1))) ([.ref (c 105), .int p0] : List Value).toArray s 0 0 (fun _ => False)) (F0 m 49 ls []) := by
              intro n
              induction n with
              | zero => intro l3_49 ls if0_49 if1_49 hm; exact absurd hm (Nat.not_lt_zero _)
              | succ n ih49 =>
                intro l3_49 ls if0_49 if1_49 hm49 hl
                refine lv_iload_n hx hb dX6_isWhole_49 rfl (lv_at hl 0 rfl) ?_
                refine lv_iload_n hx hb dX6_isWhole_50 rfl (lv_at hl 3 rfl) ?_
                refine lv_iload_n hx hb dX6_isWhole_51 rfl (lv_at hl 1 rfl) ?_
                refine lv_iadd hx hb dX6_isWhole_52 ?_
                refine lv_topi (fun v_15 ev_15 => ?_)
                have hv_15 : v_15.toInt = p0.toInt + r_1.toInt := by rw [ev_15]; exact (iv_add (by omega) (by omega)).trans (by omega)
                clear ev_15
                refine lv_icmp_gt (tgt := 98) hx hb dX6_isWhole_53 (by decide) (fun c_16 => ?_) (fun c_16 => ?_)
                · skip
                  have ic_16 := iv_lt c_16
                  refine lv_iconst (v := 1) hx hb dX6_isWhole_98 (by decide) ?_
                  exact W.zret hx hb hr rfl (fun t ht hW => ⟨_, rfl, ⟨(by omega), (by omega), (by omega)⟩, ht⟩) (fun q h => by cases h) dX6_isWhole_99
                · skip
                  have ic_16 := iv_nlt c_16
                  refine lv_aload_n hx hb dX6_isWhole_56 rfl (lv_at hl 2 rfl) ?_
                  refine va_get (D := (dC, dI)) (ci := 8) (v := .ref (c 104)) (C := RX6) (T := TX6) (N := 12) hx hb hts hin_X6 hown hK hP 5 rfl rfl 0 (by decide) (hts (.fieldLink RX6 9 "BlockLog$Story" "rows" "LBlockLog$Rows;") (by decide +kernel)) (fun _ h9 => h9) rfl dX6_isWhole_57 ?_
                  refine lv_iload_n hx hb dX6_isWhole_60 rfl (lv_at hl 0 rfl) ?_
                  refine vp_callSi (va_Run.run (va_runV (As := [.int l3_49]) (rest := []) ⟨hx, hb, hml, hown, hts⟩ (v_X4_a l dC dI c kc st lg ai al R l3_49 (show 0 ≤ (st 15).toInt by omega) (show (st 15).toInt ≤ 1 by omega) (by omega) (by omega)) (cwV 1 hts gX6_isWhole_X4_a rfl rfl rfl (by decide +kernel) ⟨Nat.le_of_ble_eq_true rfl, Nat.le_of_ble_eq_true rfl⟩) ⟨fun a U g mk q => by obtain ⟨q0, qP, qK, qG⟩ := q; exact ⟨q0, qP, va_K.moved (u := U) (U := U.calling g mk a) (Vm.Alike.refl U.vm) qK, qG.same rfl⟩, va_recv hK hP (ci := 6) (q := (RX4, TX4, 6)) rfl (q0 := 4) rfl, fun U hU hW => ⟨rfl, by rw [hU]; exact hP, va_K.moved hW.alike hK, hGW.warm hW⟩⟩ rfl rfl hl.1 rfl (lv_room (Nat.le_of_ble_eq_true rfl)) dX6_isWhole_61 ⟨Nat.le_of_ble_eq_true rfl, Nat.le_of_ble_eq_true rfl⟩)) (fun r_17 er_17 => ?_)
                  refine lv_istore (lv' := [(4, .int r_17), (3, .int l3_49), (2, .int r_1), (0, .ref (c 105)), (1, .int p0)]) hx hb dX6_isWhole_64 hl (by decide) rfl (fun ls hl => ?_)
                  refine lv_aload_n hx hb dX6_isWhole_66 rfl (lv_at hl 3 rfl) ?_
                  refine va_get (D := (dC, dI)) (ci := 8) (v := .ref (c 104)) (C := RX6) (T := TX6) (N := 12) hx hb hts hin_X6 hown hK hP 5 rfl rfl 0 (by decide) (hts (.fieldLink RX6 9 "BlockLog$Story" "rows" "LBlockLog$Rows;") (by decide +kernel)) (fun _ h9 => h9) rfl dX6_isWhole_67 ?_
                  refine lv_iload_n hx hb dX6_isWhole_70 rfl (lv_at hl 1 rfl) ?_
                  refine vp_callSi (va_Run.run (va_runV (As := [.int l3_49]) (rest := []) ⟨hx, hb, hml, hown, hts⟩ (v_X4_kind l dC dI c kc st lg ai al R l3_49 (show 0 ≤ (st 15).toInt by omega) (show (st 15).toInt ≤ 1 by omega) (by omega) (by omega) (show aR (ai 7) 8224 (-128) 127 from hR7)) (cwV 1 hts gX6_isWhole_X4_kind rfl rfl rfl (by decide +kernel) ⟨Nat.le_of_ble_eq_true rfl, Nat.le_of_ble_eq_true rfl⟩) ⟨fun a U g mk q => by obtain ⟨q0, qP, qK, qG⟩ := q; exact ⟨q0, qP, va_K.moved (u := U) (U := U.calling g mk a) (Vm.Alike.refl U.vm) qK, qG.same rfl⟩, va_recv hK hP (ci := 6) (q := (RX4, TX4, 6)) rfl (q0 := 4) rfl, fun U hU hW => ⟨rfl, by rw [hU]; exact hP, va_K.moved hW.alike hK, hGW.warm hW⟩⟩ rfl rfl hl.1 rfl (lv_room (Nat.le_of_ble_eq_true rfl)) dX6_isWhole_71 ⟨Nat.le_of_ble_eq_true rfl, Nat.le_of_ble_eq_true rfl⟩)) (fun r_18 er_18 => ?_)
                  refine lv_iconst (v := 3) hx hb dX6_isWhole_74 (by decide) ?_
                  refine lv_icmp_ne (tgt := 90) hx hb dX6_isWhole_75 (by decide) (fun c_19 => ?_) (fun c_19 => ?_)
                  · skip
                    have ic_19 := iv_ne c_19
                    refine lv_iconst (v := 0) hx hb dX6_isWhole_90 (by decide) ?_
                    exact W.zret hx hb hr rfl (fun t ht hW => ⟨_, rfl, ⟨(by omega), (by omega), (by omega)⟩, ht⟩) (fun q h => by cases h) dX6_isWhole_91
                  · skip
                    have ic_19 := iv_eq c_19
                    refine lv_iload hx hb dX6_isWhole_78 (lv_at hl 0 rfl) ?_
                    refine lv_if_lt (tgt := 90) hx hb dX6_isWhole_80 (by decide) (fun c_20 => ?_) (fun c_20 => ?_)
                    · skip
                      have ic_20 := iv_lt c_20
                      refine lv_iconst (v := 0) hx hb dX6_isWhole_90 (by decide) ?_
                      exact W.zret hx hb hr rfl (fun t ht hW => ⟨_, rfl, ⟨(by omega), (by omega), (by omega)⟩, ht⟩) (fun q h => by cases h) dX6_isWhole_91
                    · skip
                      have ic_20 := iv_nlt c_20
                      refine lv_iload hx hb dX6_isWhole_83 (lv_at hl 0 rfl) ?_
                      refine lv_bipush (v := 16) hx hb dX6_isWhole_85 (by decide) ?_
                      refine lv_icmp_lt (tgt := 92) hx hb dX6_isWhole_87 (by decide) (fun c_21 => ?_) (fun c_21 => ?_)
                      · skip
                        have ic_21 := iv_lt c_21
                        obtain ⟨x_22, ex_22⟩ : ∃ z : Int32, z = l3_49 + (1) := ⟨_, rfl⟩
                        refine lv_iinc (v := x_22) (lv' := [(3, .int x_22), (4, .int r_17), (2, .int r_1), (0, .ref (c 105)), (1, .int p0)]) hx hb dX6_isWhole_92 hl (k := 1) rfl (by rw [ex_22]; rfl) (by decide) rfl (fun ls hl => ?_)
                        have rg3 := iv_rng l3_49
                        have hx_22 : x_22.toInt = l3_49.toInt + (1) := by rw [ex_22]; exact (iv_add (by omega) (by omega)).trans (by omega)
                        clear ex_22
                        refine lv_goto (tgt := 49) hx hb dX6_isWhole_95 (by decide) ?_
                        exact ih49 x_22 _ (by omega) (by omega) (by omega) (lv_sub hl [0, 2, 3, 4] rfl)
                      · skip
                        have ic_21 := iv_nlt c_21
                        refine lv_iconst (v := 0) hx hb dX6_isWhole_90 (by decide) ?_
                        exact W.zret hx hb hr rfl (fun t ht hW => ⟨_, rfl, ⟨(by omega), (by omega), (by omega)⟩, ht⟩) (fun q h => by cases h) dX6_isWhole_91
            exact loop49 ((p0.toInt + r_1.toInt + 1 - v_14.toInt : Int).toNat + 1) v_14 _ (by omega) (by omega) (by omega) (lv_sub hl [0, 1, 2, 3] rfl)
          · skip
            have ic_13 := iv_nlt c_13
            refine lv_iconst (v := 0) hx hb dX6_isWhole_43 (by decide) ?_
            exact W.zret hx hb hr rfl (fun t ht hW => ⟨_, rfl, ⟨(by omega), (by omega), (by omega)⟩, ht⟩) (fun q h => by cases h) dX6_isWhole_44

set_option maxHeartbeats 4000000 in
set_option maxRecDepth 100000 in
theorem v_X6_sumOfBlock (l : Launch) (dC : Nat → ClassId) (dI : Nat → Nat → Nat) (c : Nat → Nat) (kc : Nat → ClassId) (st : Nat → Int32) (lg : Nat → Int64) (ai : Nat → Nat → Int32) (al : Nat → Nat → Int64) (R : va_W) (p0 : Int32) (hf15a : 0 ≤ (st 15).toInt) (hf15b : (st 15).toInt ≤ 1) (hf25a : 0 ≤ (st 25).toInt) (hf25b : (st 25).toInt ≤ 128) (hq0 : 0 ≤ p0.toInt) (hq1 : p0.toInt ≤ 127) (hq2 : 0 ≤ (cB (ai 7) (st 15) p0).toInt) (hq3 : (cB (ai 7) (st 15) p0).toInt ≤ 16) (hq4 : p0.toInt + (cB (ai 7) (st 15) p0).toInt < (st 25).toInt) : Met l yX6_sumOfBlock wsX6_sumOfBlock ({ frames := 2, cells := 0, slots := 0, locals := 50 }) (va_Pc [.ref (c 105), .int p0] (fun U => va_P (dC, dI) vwCl (cw_W c kc st lg ai al R) U.heap ∧ va_K (dC, dI) vwCl (cw_T kc) U ∧ gx_W U)) (vp_Sl (fun r => True)) 0 0 (fun _ => False) := by
  refine Met.ofW (cc := cX6_sumOfBlock) (maxL := 6) (ret := (some .long)) (by decide) rfl ?_
  intro p e s m args below meth cM s₁ B hml hv
  obtain ⟨rfl, hP, hK, hG⟩ := hv
  have hx := B.exec
  have hb := B.bytes
  have hr := B.returns
  have hts := atoms_spec (ws := wsX6_sumOfBlock) B.pre
  have hown : s.vm.findClass RX6 = some m.cls := findClass_of_methodNamed B.named
  have hGW := hG
  have hl := lv_entry ([.ref (c 105), .int p0]) (n := 6) (Nat.le_of_ble_eq_true rfl)
  rw [lg_entry_eq]
  generalize (lg_sl ([.ref (c 105), .int p0]) ++ List.replicate (6 - (lg_sl ([.ref (c 105), .int p0])).length) Slot.unset).toArray = ls at hl ⊢
  have hl : lv_has ls 6 [(0, .ref (c 105)), (1, .int p0)] := hl
  have z_1 : (1 : Int32).toInt = 1 := by decide
  have z_4 : (4 : Int32).toInt = 4 := by decide
  have hin_X6 : ∀ w ∈ u_ws RX6 TX6 12, w ∈ wsX6_sumOfBlock := by decide +kernel
  refine lv_iconst (v := 4) hx hb dX6_sumOfBlock_0 (by decide) ?_
  refine vp_callSl (va_Run.run (va_runS (As := [.int (4 : Int32)]) (rest := []) ⟨hx, hb, hml, hown, hts⟩ (v_X0_start l dC dI (4 : Int32) ) (va_cwS 1 hts gX6_sumOfBlock_X0_start rfl rfl rfl (by decide +kernel) ⟨Nat.le_of_ble_eq_true rfl, Nat.le_of_ble_eq_true rfl⟩) ⟨fun a U g mk q => q, fun U hU hW => ⟨rfl, trivial⟩⟩ rfl rfl hl.1 rfl (lv_room (Nat.le_of_ble_eq_true rfl)) dX6_sumOfBlock_1 ⟨Nat.le_of_ble_eq_true rfl, Nat.le_of_ble_eq_true rfl⟩)) (fun r_1 er_1 => ?_)
  refine lv_aload_n hx hb dX6_sumOfBlock_4 rfl (lv_at hl 0 rfl) ?_
  refine va_get (D := (dC, dI)) (ci := 8) (v := .ref (c 104)) (C := RX6) (T := TX6) (N := 12) hx hb hts hin_X6 hown hK hP 5 rfl rfl 0 (by decide) (hts (.fieldLink RX6 9 "BlockLog$Story" "rows" "LBlockLog$Rows;") (by decide +kernel)) (fun _ h9 => h9) rfl dX6_sumOfBlock_5 ?_
  refine lv_iload_n hx hb dX6_sumOfBlock_8 rfl (lv_at hl 1 rfl) ?_
  refine vp_callSi (va_Run.run (va_runV (As := [.int p0]) (rest := [.long r_1]) ⟨hx, hb, hml, hown, hts⟩ (v_X4_a l dC dI c kc st lg ai al R p0 (show 0 ≤ (st 15).toInt by omega) (show (st 15).toInt ≤ 1 by omega) (by omega) (by omega)) (cwV 1 hts gX6_sumOfBlock_X4_a rfl rfl rfl (by decide +kernel) ⟨Nat.le_of_ble_eq_true rfl, Nat.le_of_ble_eq_true rfl⟩) ⟨fun a U g mk q => by obtain ⟨q0, qP, qK, qG⟩ := q; exact ⟨q0, qP, va_K.moved (u := U) (U := U.calling g mk a) (Vm.Alike.refl U.vm) qK, qG.same rfl⟩, va_recv hK hP (ci := 6) (q := (RX4, TX4, 6)) rfl (q0 := 4) rfl, fun U hU hW => ⟨rfl, by rw [hU]; exact hP, va_K.moved hW.alike hK, hGW.warm hW⟩⟩ rfl rfl hl.1 rfl (lv_room (Nat.le_of_ble_eq_true rfl)) dX6_sumOfBlock_9 ⟨Nat.le_of_ble_eq_true rfl, Nat.le_of_ble_eq_true rfl⟩)) (fun r_2 er_2 => ?_)
  refine vp_callSl (va_Run.run (va_runS (As := [.long r_1, .int r_2]) (rest := []) ⟨hx, hb, hml, hown, hts⟩ (v_X0_addInt l dC dI r_1 r_2 ) (va_cwS 2 hts gX6_sumOfBlock_X0_addInt rfl rfl rfl (by decide +kernel) ⟨Nat.le_of_ble_eq_true rfl, Nat.le_of_ble_eq_true rfl⟩) ⟨fun a U g mk q => q, fun U hU hW => ⟨rfl, trivial⟩⟩ rfl rfl hl.1 rfl (lv_room (Nat.le_of_ble_eq_true rfl)) dX6_sumOfBlock_12 ⟨Nat.le_of_ble_eq_true rfl, Nat.le_of_ble_eq_true rfl⟩)) (fun r_3 er_3 => ?_)
  refine lv_aload_n hx hb dX6_sumOfBlock_15 rfl (lv_at hl 0 rfl) ?_
  refine va_get (D := (dC, dI)) (ci := 8) (v := .ref (c 104)) (C := RX6) (T := TX6) (N := 12) hx hb hts hin_X6 hown hK hP 5 rfl rfl 0 (by decide) (hts (.fieldLink RX6 9 "BlockLog$Story" "rows" "LBlockLog$Rows;") (by decide +kernel)) (fun _ h9 => h9) rfl dX6_sumOfBlock_16 ?_
  refine lv_iload_n hx hb dX6_sumOfBlock_19 rfl (lv_at hl 1 rfl) ?_
  refine vp_callSl (va_Run.run (va_runV (As := [.int p0]) (rest := [.long r_3]) ⟨hx, hb, hml, hown, hts⟩ (v_X4_c l dC dI c kc st lg ai al R p0 (show 0 ≤ (st 15).toInt by omega) (show (st 15).toInt ≤ 1 by omega) (by omega) (by omega)) (cwV 1 hts gX6_sumOfBlock_X4_c rfl rfl rfl (by decide +kernel) ⟨Nat.le_of_ble_eq_true rfl, Nat.le_of_ble_eq_true rfl⟩) ⟨fun a U g mk q => by obtain ⟨q0, qP, qK, qG⟩ := q; exact ⟨q0, qP, va_K.moved (u := U) (U := U.calling g mk a) (Vm.Alike.refl U.vm) qK, qG.same rfl⟩, va_recv hK hP (ci := 6) (q := (RX4, TX4, 6)) rfl (q0 := 4) rfl, fun U hU hW => ⟨rfl, by rw [hU]; exact hP, va_K.moved hW.alike hK, hGW.warm hW⟩⟩ rfl rfl hl.1 rfl (lv_room (Nat.le_of_ble_eq_true rfl)) dX6_sumOfBlock_20 ⟨Nat.le_of_ble_eq_true rfl, Nat.le_of_ble_eq_true rfl⟩)) (fun r_4 er_4 => ?_)
  refine vp_callSl (va_Run.run (va_runS (As := [.long r_3, .long r_4]) (rest := []) ⟨hx, hb, hml, hown, hts⟩ (v_X0_addLong l dC dI r_3 r_4 ) (va_cwS 2 hts gX6_sumOfBlock_X0_addLong rfl rfl rfl (by decide +kernel) ⟨Nat.le_of_ble_eq_true rfl, Nat.le_of_ble_eq_true rfl⟩) ⟨fun a U g mk q => q, fun U hU hW => ⟨rfl, trivial⟩⟩ rfl rfl hl.1 rfl (lv_room (Nat.le_of_ble_eq_true rfl)) dX6_sumOfBlock_23 ⟨Nat.le_of_ble_eq_true rfl, Nat.le_of_ble_eq_true rfl⟩)) (fun r_5 er_5 => ?_)
  refine lv_lstore_n (lv' := [(2, .long r_5), (0, .ref (c 105)), (1, .int p0)]) hx hb dX6_sumOfBlock_26 rfl hl (by decide) rfl (fun ls hl => ?_)
  refine lv_iload_n hx hb dX6_sumOfBlock_27 rfl (lv_at hl 2 rfl) ?_
  refine lv_aload_n hx hb dX6_sumOfBlock_28 rfl (lv_at hl 1 rfl) ?_
  refine va_get (D := (dC, dI)) (ci := 8) (v := .ref (c 104)) (C := RX6) (T := TX6) (N := 12) hx hb hts hin_X6 hown hK hP 5 rfl rfl 0 (by decide) (hts (.fieldLink RX6 9 "BlockLog$Story" "rows" "LBlockLog$Rows;") (by decide +kernel)) (fun _ h9 => h9) rfl dX6_sumOfBlock_29 ?_
  refine lv_iload_n hx hb dX6_sumOfBlock_32 rfl (lv_at hl 2 rfl) ?_
  refine vp_callSi (va_Run.run (va_runV (As := [.int p0]) (rest := [.int p0]) ⟨hx, hb, hml, hown, hts⟩ (v_X4_b l dC dI c kc st lg ai al R p0 (show 0 ≤ (st 15).toInt by omega) (show (st 15).toInt ≤ 1 by omega) (by omega) (by omega)) (cwV 1 hts gX6_sumOfBlock_X4_b rfl rfl rfl (by decide +kernel) ⟨Nat.le_of_ble_eq_true rfl, Nat.le_of_ble_eq_true rfl⟩) ⟨fun a U g mk q => by obtain ⟨q0, qP, qK, qG⟩ := q; exact ⟨q0, qP, va_K.moved (u := U) (U := U.calling g mk a) (Vm.Alike.refl U.vm) qK, qG.same rfl⟩, va_recv hK hP (ci := 6) (q := (RX4, TX4, 6)) rfl (q0 := 4) rfl, fun U hU hW => ⟨rfl, by rw [hU]; exact hP, va_K.moved hW.alike hK, hGW.warm hW⟩⟩ rfl rfl hl.1 rfl (lv_room (Nat.le_of_ble_eq_true rfl)) dX6_sumOfBlock_33 ⟨Nat.le_of_ble_eq_true rfl, Nat.le_of_ble_eq_true rfl⟩)) (fun r_6 er_6 => ?_)
  have k_7 := er_6
  have k_7 : r_6.toInt = (cB (ai 7) (st 15) p0).toInt := k_7
  refine lv_iadd hx hb dX6_sumOfBlock_36 ?_
  refine lv_topi (fun v_8 ev_8 => ?_)
  have rg1 := iv_rng p0
  have rg2 := iv_rng r_6
  have hv_8 : v_8.toInt = p0.toInt + r_6.toInt := by rw [ev_8]; exact (iv_add (by omega) (by omega)).trans (by omega)
  clear ev_8
  refine lv_istore (lv' := [(4, .int v_8), (2, .long r_5), (0, .ref (c 105)), (1, .int p0)]) hx hb dX6_sumOfBlock_37 hl (by decide) rfl (fun ls hl => ?_)
  refine lv_iload_n hx hb dX6_sumOfBlock_39 rfl (lv_at hl 3 rfl) ?_
  refine lv_iconst (v := 1) hx hb dX6_sumOfBlock_40 (by decide) ?_
  refine lv_iadd hx hb dX6_sumOfBlock_41 ?_
  refine lv_topi (fun v_9 ev_9 => ?_)
  have hv_9 : v_9.toInt = p0.toInt + 1 := by rw [ev_9]; exact (iv_add (by omega) (by omega)).trans (by omega)
  clear ev_9
  refine lv_istore (lv' := [(5, .int v_9), (4, .int v_8), (2, .long r_5), (0, .ref (c 105)), (1, .int p0)]) hx hb dX6_sumOfBlock_42 hl (by decide) rfl (fun ls hl => ?_)
  have loop44 : ∀ (n : Nat) (l5_44 : Int32) (l2_44 : Int64) (ls : Array Slot), (p0.toInt + 1 ≤ l5_44.toInt) → (l5_44.toInt ≤ v_8.toInt + 1) → (v_8.toInt + 1 - l5_44.toInt : Int).toNat < n → lv_has ls 6 [(5, .int l5_44), (4, .int v_8), (2, .long l2_44), (0, .ref (c 105)), (1, .int p0)] → W p l e (headSpec wsX6_sumOfBlock ({ frames := 2, cells := 0, slots := 0, locals := 50 })).room s m ([.ref (c 105), .int p0] : List Value).toArray below meth cM s.heap [] 0 0 (MQ below (vp_Sl (fun r => True)) ([.ref (c 105), .int p0] : List Value).toArray s 0 0 (fun _ => False)) (F0 m 44 ls []) := by
    intro n
    induction n with
    | zero => intro l5_44 l2_44 ls if0_44 if1_44 hm; exact absurd hm (Nat.not_lt_zero _)
    | succ n ih44 =>
      intro l5_44 l2_44 ls if0_44 if1_44 hm44 hl
      refine lv_iload hx hb dX6_sumOfBlock_44 (lv_at hl 0 rfl) ?_
      refine lv_iload hx hb dX6_sumOfBlock_46 (lv_at hl 1 rfl) ?_
      refine lv_icmp_gt (tgt := 83) hx hb dX6_sumOfBlock_48 (by decide) (fun c_10 => ?_) (fun c_10 => ?_)
      · skip
        have ic_10 := iv_lt c_10
        refine lv_lload_n hx hb dX6_sumOfBlock_83 rfl (lv_at hl 2 rfl) ?_
        exact W.lret hx hb hr (fun t ht hW => ⟨_, rfl, trivial, ht⟩) (fun q h => by cases h) dX6_sumOfBlock_84
      · skip
        have ic_10 := iv_nlt c_10
        refine lv_lload_n hx hb dX6_sumOfBlock_51 rfl (lv_at hl 2 rfl) ?_
        refine lv_aload_n hx hb dX6_sumOfBlock_52 rfl (lv_at hl 3 rfl) ?_
        refine va_get (D := (dC, dI)) (ci := 8) (v := .ref (c 104)) (C := RX6) (T := TX6) (N := 12) hx hb hts hin_X6 hown hK hP 5 rfl rfl 0 (by decide) (hts (.fieldLink RX6 9 "BlockLog$Story" "rows" "LBlockLog$Rows;") (by decide +kernel)) (fun _ h9 => h9) rfl dX6_sumOfBlock_53 ?_
        refine lv_iload hx hb dX6_sumOfBlock_56 (lv_at hl 0 rfl) ?_
        refine vp_callSi (va_Run.run (va_runV (As := [.int l5_44]) (rest := [.long l2_44]) ⟨hx, hb, hml, hown, hts⟩ (v_X4_a l dC dI c kc st lg ai al R l5_44 (show 0 ≤ (st 15).toInt by omega) (show (st 15).toInt ≤ 1 by omega) (by omega) (by omega)) (cwV 1 hts gX6_sumOfBlock_X4_a rfl rfl rfl (by decide +kernel) ⟨Nat.le_of_ble_eq_true rfl, Nat.le_of_ble_eq_true rfl⟩) ⟨fun a U g mk q => by obtain ⟨q0, qP, qK, qG⟩ := q; exact ⟨q0, qP, va_K.moved (u := U) (U := U.calling g mk a) (Vm.Alike.refl U.vm) qK, qG.same rfl⟩, va_recv hK hP (ci := 6) (q := (RX4, TX4, 6)) rfl (q0 := 4) rfl, fun U hU hW => ⟨rfl, by rw [hU]; exact hP, va_K.moved hW.alike hK, hGW.warm hW⟩⟩ rfl rfl hl.1 rfl (lv_room (Nat.le_of_ble_eq_true rfl)) dX6_sumOfBlock_58 ⟨Nat.le_of_ble_eq_true rfl, Nat.le_of_ble_eq_true rfl⟩)) (fun r_11 er_11 => ?_)
        refine vp_callSl (va_Run.run (va_runS (As := [.long l2_44, .int r_11]) (rest := []) ⟨hx, hb, hml, hown, hts⟩ (v_X0_addInt l dC dI l2_44 r_11 ) (va_cwS 2 hts gX6_sumOfBlock_X0_addInt rfl rfl rfl (by decide +kernel) ⟨Nat.le_of_ble_eq_true rfl, Nat.le_of_ble_eq_true rfl⟩) ⟨fun a U g mk q => q, fun U hU hW => ⟨rfl, trivial⟩⟩ rfl rfl hl.1 rfl (lv_room (Nat.le_of_ble_eq_true rfl)) dX6_sumOfBlock_61 ⟨Nat.le_of_ble_eq_true rfl, Nat.le_of_ble_eq_true rfl⟩)) (fun r_12 er_12 => ?_)
        refine lv_aload_n hx hb dX6_sumOfBlock_64 rfl (lv_at hl 3 rfl) ?_
        refine va_get (D := (dC, dI)) (ci := 8) (v := .ref (c 104)) (C := RX6) (T := TX6) (N := 12) hx hb hts hin_X6 hown hK hP 5 rfl rfl 0 (by decide) (hts (.fieldLink RX6 9 "BlockLog$Story" "rows" "LBlockLog$Rows;") (by decide +kernel)) (fun _ h9 => h9) rfl dX6_sumOfBlock_65 ?_
        refine lv_iload hx hb dX6_sumOfBlock_68 (lv_at hl 0 rfl) ?_
        refine vp_callSl (va_Run.run (va_runV (As := [.int l5_44]) (rest := [.long r_12]) ⟨hx, hb, hml, hown, hts⟩ (v_X4_c l dC dI c kc st lg ai al R l5_44 (show 0 ≤ (st 15).toInt by omega) (show (st 15).toInt ≤ 1 by omega) (by omega) (by omega)) (cwV 1 hts gX6_sumOfBlock_X4_c rfl rfl rfl (by decide +kernel) ⟨Nat.le_of_ble_eq_true rfl, Nat.le_of_ble_eq_true rfl⟩) ⟨fun a U g mk q => by obtain ⟨q0, qP, qK, qG⟩ := q; exact ⟨q0, qP, va_K.moved (u := U) (U := U.calling g mk a) (Vm.Alike.refl U.vm) qK, qG.same rfl⟩, va_recv hK hP (ci := 6) (q := (RX4, TX4, 6)) rfl (q0 := 4) rfl, fun U hU hW => ⟨rfl, by rw [hU]; exact hP, va_K.moved hW.alike hK, hGW.warm hW⟩⟩ rfl rfl hl.1 rfl (lv_room (Nat.le_of_ble_eq_true rfl)) dX6_sumOfBlock_70 ⟨Nat.le_of_ble_eq_true rfl, Nat.le_of_ble_eq_true rfl⟩)) (fun r_13 er_13 => ?_)
        refine vp_callSl (va_Run.run (va_runS (As := [.long r_12, .long r_13]) (rest := []) ⟨hx, hb, hml, hown, hts⟩ (v_X0_addLong l dC dI r_12 r_13 ) (va_cwS 2 hts gX6_sumOfBlock_X0_addLong rfl rfl rfl (by decide +kernel) ⟨Nat.le_of_ble_eq_true rfl, Nat.le_of_ble_eq_true rfl⟩) ⟨fun a U g mk q => q, fun U hU hW => ⟨rfl, trivial⟩⟩ rfl rfl hl.1 rfl (lv_room (Nat.le_of_ble_eq_true rfl)) dX6_sumOfBlock_73 ⟨Nat.le_of_ble_eq_true rfl, Nat.le_of_ble_eq_true rfl⟩)) (fun r_14 er_14 => ?_)
        refine lv_lstore_n (lv' := [(2, .long r_14), (5, .int l5_44), (4, .int v_8), (0, .ref (c 105)), (1, .int p0)]) hx hb dX6_sumOfBlock_76 rfl hl (by decide) rfl (fun ls hl => ?_)
        obtain ⟨x_15, ex_15⟩ : ∃ z : Int32, z = l5_44 + (1) := ⟨_, rfl⟩
        refine lv_iinc (v := x_15) (lv' := [(5, .int x_15), (2, .long r_14), (4, .int v_8), (0, .ref (c 105)), (1, .int p0)]) hx hb dX6_sumOfBlock_77 hl (k := 1) rfl (by rw [ex_15]; rfl) (by decide) rfl (fun ls hl => ?_)
        have rg3 := iv_rng l5_44
        have hx_15 : x_15.toInt = l5_44.toInt + (1) := by rw [ex_15]; exact (iv_add (by omega) (by omega)).trans (by omega)
        clear ex_15
        refine lv_goto (tgt := 44) hx hb dX6_sumOfBlock_80 (by decide) ?_
        exact ih44 x_15 r_14 _ (by omega) (by omega) (by omega) (lv_sub hl [0, 2, 1, 3, 4] rfl)
  exact loop44 ((v_8.toInt + 1 - v_9.toInt : Int).toNat + 1) v_9 r_5 _ (by omega) (by omega) (by omega) (lv_sub hl [0, 1, 2, 3, 4] rfl)

set_option maxHeartbeats 4000000 in
set_option maxRecDepth 100000 in
theorem v_X6_blockRow (l : Launch) (dC : Nat → ClassId) (dI : Nat → Nat → Nat) (c : Nat → Nat) (kc : Nat → ClassId) (st : Nat → Int32) (lg : Nat → Int64) (ai : Nat → Nat → Int32) (al : Nat → Nat → Int64) (R : va_W) (p0 : Int64) (hf25a : 0 ≤ (st 25).toInt) (hf25b : (st 25).toInt ≤ 128) : Met l yX6_blockRow wsX6_blockRow ({ frames := 0, cells := 0, slots := 0, locals := 0 }) (va_Pc [.ref (c 105), .long p0] (fun U => va_P (dC, dI) vwCl (cw_W c kc st lg ai al R) U.heap ∧ va_K (dC, dI) vwCl (cw_T kc) U)) (vp_Si (fun r => (-1 ≤ r.toInt) ∧ (r.toInt < (st 25).toInt))) 0 0 (fun _ => False) := by
  refine Met.ofW (cc := cX6_blockRow) (maxL := 4) (ret := (some .int)) (by decide) rfl ?_
  intro p e s m args below meth cM s₁ B hml hv
  obtain ⟨rfl, hP, hK⟩ := hv
  have hx := B.exec
  have hb := B.bytes
  have hr := B.returns
  have hts := atoms_spec (ws := wsX6_blockRow) B.pre
  have hown : s.vm.findClass RX6 = some m.cls := findClass_of_methodNamed B.named
  have hl := lv_entry ([.ref (c 105), .long p0]) (n := 4) (Nat.le_of_ble_eq_true rfl)
  rw [lg_entry_eq]
  generalize (lg_sl ([.ref (c 105), .long p0]) ++ List.replicate (4 - (lg_sl ([.ref (c 105), .long p0])).length) Slot.unset).toArray = ls at hl ⊢
  have hl : lv_has ls 4 [(0, .ref (c 105)), (1, .long p0)] := hl
  have z_m1 : (-1 : Int32).toInt = -1 := by decide
  have z_0 : (0 : Int32).toInt = 0 := by decide
  have z_1 : (1 : Int32).toInt = 1 := by decide
  have hin_X6 : ∀ w ∈ u_ws RX6 TX6 12, w ∈ wsX6_blockRow := by decide +kernel
  refine lv_lload_n hx hb dX6_blockRow_0 rfl (lv_at hl 1 rfl) ?_
  refine lv_lconst (v := 0) hx hb dX6_blockRow_1 (by decide) ?_
  refine W.lcmp hx hb dX6_blockRow_2 ?_
  refine lv_topi (fun v_1 ev_1 => ?_)
  clear ev_1
  refine lv_if_ne (tgt := 8) hx hb dX6_blockRow_3 (by decide) (fun c_2 => ?_) (fun c_2 => ?_)
  · skip
    have ic_2 := iv_ne c_2
    refine lv_iconst (v := 0) hx hb dX6_blockRow_8 (by decide) ?_
    refine lv_istore_n (lv' := [(3, .int (0 : Int32)), (0, .ref (c 105)), (1, .long p0)]) hx hb dX6_blockRow_9 rfl hl (by decide) rfl (fun ls hl => ?_)
    have loop10 : ∀ (n : Nat) (l3_10 : Int32) (ls : Array Slot), (0 ≤ l3_10.toInt) → (l3_10.toInt ≤ (st 25).toInt) → ((st 25).toInt - l3_10.toInt : Int).toNat < n → lv_has ls 4 [(3, .int l3_10), (0, .ref (c 105)), (1, .long p0)] → W p l e (headSpec wsX6_blockRow ({ frames := 0, cells := 0, slots := 0, locals := 0 })).room s m ([.ref (c 105), .long p0] : List Value).toArray below meth cM s.heap [] 0 0 (MQ below (vp_Si (fun r => (-1 ≤ r.toInt) ∧ (r.toInt < (st 25).toInt))) ([.ref (c 105), .long p0] : List Value).toArray s 0 0 (fun _ => False)) (F0 m 10 ls []) := by
      intro n
      induction n with
      | zero => intro l3_10 ls if0_10 if1_10 hm; exact absurd hm (Nat.not_lt_zero _)
      | succ n ih10 =>
        intro l3_10 ls if0_10 if1_10 hm10 hl
        refine lv_iload_n hx hb dX6_blockRow_10 rfl (lv_at hl 0 rfl) ?_
        refine lv_aload_n hx hb dX6_blockRow_11 rfl (lv_at hl 1 rfl) ?_
        refine va_get (D := (dC, dI)) (ci := 8) (v := .int (st 25)) (C := RX6) (T := TX6) (N := 12) hx hb hts hin_X6 hown hK hP 5 rfl rfl 7 (by decide) (hts (.fieldLink RX6 36 "BlockLog$Story" "heard" "I") (by decide +kernel)) (fun _ h9 => h9) rfl dX6_blockRow_12 ?_
        refine lv_icmp_ge (tgt := 46) hx hb dX6_blockRow_15 (by decide) (fun c_3 => ?_) (fun c_3 => ?_)
        · skip
          have ic_3 := iv_le c_3
          refine lv_iconst (v := (-1)) hx hb dX6_blockRow_46 (by decide) ?_
          exact W.iret hx hb hr (fun t ht hW => ⟨_, rfl, ⟨(by omega), (by omega)⟩, ht⟩) (fun q h => by cases h) dX6_blockRow_47
        · skip
          have ic_3 := iv_nle c_3
          refine lv_aload_n hx hb dX6_blockRow_18 rfl (lv_at hl 1 rfl) ?_
          refine va_get (D := (dC, dI)) (ci := 8) (v := .ref (c 20)) (C := RX6) (T := TX6) (N := 12) hx hb hts hin_X6 hown hK hP 5 rfl rfl 2 (by decide) (hts (.fieldLink RX6 19 "BlockLog$Story" "isBlock" "[Z") (by decide +kernel)) (fun _ h9 => h9) rfl dX6_blockRow_19 ?_
          refine lv_iload_n hx hb dX6_blockRow_22 rfl (lv_at hl 0 rfl) ?_
          refine va_zald (f := ai 20) hx hb hK hP 16 8 rfl rfl (iv_in (i := l3_10) (by omega) (by omega)) dX6_blockRow_23 ?_
          refine lv_topi (fun v_4 ev_4 => ?_)
          clear ev_4
          refine lv_if_eq (tgt := 40) hx hb dX6_blockRow_24 (by decide) (fun c_5 => ?_) (fun c_5 => ?_)
          · skip
            have ic_5 := iv_eq c_5
            obtain ⟨x_6, ex_6⟩ : ∃ z : Int32, z = l3_10 + (1) := ⟨_, rfl⟩
            refine lv_iinc (v := x_6) (lv' := [(3, .int x_6), (0, .ref (c 105)), (1, .long p0)]) hx hb dX6_blockRow_40 hl (k := 0) rfl (by rw [ex_6]; rfl) (by decide) rfl (fun ls hl => ?_)
            have rg1 := iv_rng l3_10
            have hx_6 : x_6.toInt = l3_10.toInt + (1) := by rw [ex_6]; exact (iv_add (by omega) (by omega)).trans (by omega)
            clear ex_6
            refine lv_goto (tgt := 10) hx hb dX6_blockRow_43 (by decide) ?_
            exact ih10 x_6 _ (by omega) (by omega) (by omega) (lv_sub hl [0, 1, 2] rfl)
          · skip
            have ic_5 := iv_ne c_5
            refine lv_aload_n hx hb dX6_blockRow_27 rfl (lv_at hl 1 rfl) ?_
            refine va_get (D := (dC, dI)) (ci := 8) (v := .ref (c 19)) (C := RX6) (T := TX6) (N := 12) hx hb hts hin_X6 hown hK hP 5 rfl rfl 1 (by decide) (hts (.fieldLink RX6 15 "BlockLog$Story" "digests" "[J") (by decide +kernel)) (fun _ h9 => h9) rfl dX6_blockRow_28 ?_
            refine lv_iload_n hx hb dX6_blockRow_31 rfl (lv_at hl 0 rfl) ?_
            refine va_lald (f := al 19) hx hb hK hP 15 7 rfl rfl (iv_in (i := l3_10) (by omega) (by omega)) dX6_blockRow_32 ?_
            refine lv_topl (fun w_7 ew_7 => ?_)
            clear ew_7
            refine lv_lload_n hx hb dX6_blockRow_33 rfl (lv_at hl 2 rfl) ?_
            refine W.lcmp hx hb dX6_blockRow_34 ?_
            refine lv_topi (fun v_8 ev_8 => ?_)
            clear ev_8
            refine lv_if_ne (tgt := 40) hx hb dX6_blockRow_35 (by decide) (fun c_9 => ?_) (fun c_9 => ?_)
            · skip
              have ic_9 := iv_ne c_9
              obtain ⟨x_10, ex_10⟩ : ∃ z : Int32, z = l3_10 + (1) := ⟨_, rfl⟩
              refine lv_iinc (v := x_10) (lv' := [(3, .int x_10), (0, .ref (c 105)), (1, .long p0)]) hx hb dX6_blockRow_40 hl (k := 0) rfl (by rw [ex_10]; rfl) (by decide) rfl (fun ls hl => ?_)
              have rg2 := iv_rng l3_10
              have hx_10 : x_10.toInt = l3_10.toInt + (1) := by rw [ex_10]; exact (iv_add (by omega) (by omega)).trans (by omega)
              clear ex_10
              refine lv_goto (tgt := 10) hx hb dX6_blockRow_43 (by decide) ?_
              exact ih10 x_10 _ (by omega) (by omega) (by omega) (lv_sub hl [0, 1, 2] rfl)
            · skip
              have ic_9 := iv_eq c_9
              refine lv_iload_n hx hb dX6_blockRow_38 rfl (lv_at hl 0 rfl) ?_
              exact W.iret hx hb hr (fun t ht hW => ⟨_, rfl, ⟨(by omega), (by omega)⟩, ht⟩) (fun q h => by cases h) dX6_blockRow_39
    exact loop10 (((st 25).toInt - 0 : Int).toNat + 1) (0 : Int32) _ (by omega) (by omega) (by omega) (lv_sub hl [0, 1, 2] rfl)
  · skip
    have ic_2 := iv_eq c_2
    refine lv_iconst (v := (-1)) hx hb dX6_blockRow_6 (by decide) ?_
    exact W.iret hx hb hr (fun t ht hW => ⟨_, rfl, ⟨(by omega), (by omega)⟩, ht⟩) (fun q h => by cases h) dX6_blockRow_7

set_option maxHeartbeats 4000000 in
set_option maxRecDepth 100000 in
theorem v_X6_digestAt (l : Launch) (dC : Nat → ClassId) (dI : Nat → Nat → Nat) (c : Nat → Nat) (kc : Nat → ClassId) (st : Nat → Int32) (lg : Nat → Int64) (ai : Nat → Nat → Int32) (al : Nat → Nat → Int64) (R : va_W) (p0 : Int32) (hf25a : 0 ≤ (st 25).toInt) (hf25b : (st 25).toInt ≤ 128) : Met l yX6_digestAt wsX6_digestAt ({ frames := 0, cells := 0, slots := 0, locals := 0 }) (va_Pc [.ref (c 105), .int p0] (fun U => va_P (dC, dI) vwCl (cw_W c kc st lg ai al R) U.heap ∧ va_K (dC, dI) vwCl (cw_T kc) U)) (vp_Sl (fun r => True)) 0 0 (fun _ => False) := by
  refine Met.ofW (cc := cX6_digestAt) (maxL := 2) (ret := (some .long)) (by decide) rfl ?_
  intro p e s m args below meth cM s₁ B hml hv
  obtain ⟨rfl, hP, hK⟩ := hv
  have hx := B.exec
  have hb := B.bytes
  have hr := B.returns
  have hts := atoms_spec (ws := wsX6_digestAt) B.pre
  have hown : s.vm.findClass RX6 = some m.cls := findClass_of_methodNamed B.named
  have hl := lv_entry ([.ref (c 105), .int p0]) (n := 2) (Nat.le_of_ble_eq_true rfl)
  rw [lg_entry_eq]
  generalize (lg_sl ([.ref (c 105), .int p0]) ++ List.replicate (2 - (lg_sl ([.ref (c 105), .int p0])).length) Slot.unset).toArray = ls at hl ⊢
  have hl : lv_has ls 2 [(0, .ref (c 105)), (1, .int p0)] := hl
  have z_0 : (0 : Int32).toInt = 0 := by decide
  have hin_X6 : ∀ w ∈ u_ws RX6 TX6 12, w ∈ wsX6_digestAt := by decide +kernel
  refine lv_iload_n hx hb dX6_digestAt_0 rfl (lv_at hl 1 rfl) ?_
  refine lv_if_lt (tgt := 12) hx hb dX6_digestAt_1 (by decide) (fun c_1 => ?_) (fun c_1 => ?_)
  · skip
    have ic_1 := iv_lt c_1
    refine lv_lconst (v := 0) hx hb dX6_digestAt_12 (by decide) ?_
    refine lv_goto (tgt := 22) hx hb dX6_digestAt_13 (by decide) ?_
    exact W.lret hx hb hr (fun t ht hW => ⟨_, rfl, trivial, ht⟩) (fun q h => by cases h) dX6_digestAt_22
  · skip
    have ic_1 := iv_nlt c_1
    refine lv_iload_n hx hb dX6_digestAt_4 rfl (lv_at hl 1 rfl) ?_
    refine lv_aload_n hx hb dX6_digestAt_5 rfl (lv_at hl 0 rfl) ?_
    refine va_get (D := (dC, dI)) (ci := 8) (v := .int (st 25)) (C := RX6) (T := TX6) (N := 12) hx hb hts hin_X6 hown hK hP 5 rfl rfl 7 (by decide) (hts (.fieldLink RX6 36 "BlockLog$Story" "heard" "I") (by decide +kernel)) (fun _ h9 => h9) rfl dX6_digestAt_6 ?_
    refine lv_icmp_lt (tgt := 16) hx hb dX6_digestAt_9 (by decide) (fun c_2 => ?_) (fun c_2 => ?_)
    · skip
      have ic_2 := iv_lt c_2
      refine lv_aload_n hx hb dX6_digestAt_16 rfl (lv_at hl 0 rfl) ?_
      refine va_get (D := (dC, dI)) (ci := 8) (v := .ref (c 19)) (C := RX6) (T := TX6) (N := 12) hx hb hts hin_X6 hown hK hP 5 rfl rfl 1 (by decide) (hts (.fieldLink RX6 15 "BlockLog$Story" "digests" "[J") (by decide +kernel)) (fun _ h9 => h9) rfl dX6_digestAt_17 ?_
      refine lv_iload_n hx hb dX6_digestAt_20 rfl (lv_at hl 1 rfl) ?_
      refine va_lald (f := al 19) hx hb hK hP 15 7 rfl rfl (iv_in (i := p0) (by omega) (by omega)) dX6_digestAt_21 ?_
      refine lv_topl (fun w_3 ew_3 => ?_)
      clear ew_3
      exact W.lret hx hb hr (fun t ht hW => ⟨_, rfl, trivial, ht⟩) (fun q h => by cases h) dX6_digestAt_22
    · skip
      have ic_2 := iv_nlt c_2
      refine lv_lconst (v := 0) hx hb dX6_digestAt_12 (by decide) ?_
      refine lv_goto (tgt := 22) hx hb dX6_digestAt_13 (by decide) ?_
      exact W.lret hx hb hr (fun t ht hW => ⟨_, rfl, trivial, ht⟩) (fun q h => by cases h) dX6_digestAt_22

set_option maxHeartbeats 4000000 in
set_option maxRecDepth 100000 in
theorem v_X6_meant (l : Launch) (dC : Nat → ClassId) (dI : Nat → Nat → Nat) (c : Nat → Nat) (kc : Nat → ClassId) (st : Nat → Int32) (lg : Nat → Int64) (ai : Nat → Nat → Int32) (al : Nat → Nat → Int64) (R : va_W) (p0 : Int64) (hf25a : 0 ≤ (st 25).toInt) (hf25b : (st 25).toInt ≤ 128) : Met l yX6_meant wsX6_meant ({ frames := 1, cells := 0, slots := 0, locals := 21 }) (va_Pc [.ref (c 105), .long p0] (fun U => va_P (dC, dI) vwCl (cw_W c kc st lg ai al R) U.heap ∧ va_K (dC, dI) vwCl (cw_T kc) U)) (vp_Sl (fun r => True)) 0 0 (fun _ => False) := by
  refine Met.ofW (cc := cX6_meant) (maxL := 3) (ret := (some .long)) (by decide) rfl ?_
  intro p e s m args below meth cM s₁ B hml hv
  obtain ⟨rfl, hP, hK⟩ := hv
  have hx := B.exec
  have hb := B.bytes
  have hr := B.returns
  have hts := atoms_spec (ws := wsX6_meant) B.pre
  have hown : s.vm.findClass RX6 = some m.cls := findClass_of_methodNamed B.named
  have hl := lv_entry ([.ref (c 105), .long p0]) (n := 3) (Nat.le_of_ble_eq_true rfl)
  rw [lg_entry_eq]
  generalize (lg_sl ([.ref (c 105), .long p0]) ++ List.replicate (3 - (lg_sl ([.ref (c 105), .long p0])).length) Slot.unset).toArray = ls at hl ⊢
  have hl : lv_has ls 3 [(0, .ref (c 105)), (1, .long p0)] := hl
  have z_0 : (0 : Int32).toInt = 0 := by decide
  refine lv_lload_n hx hb dX6_meant_0 rfl (lv_at hl 1 rfl) ?_
  refine lv_lconst (v := 0) hx hb dX6_meant_1 (by decide) ?_
  refine W.lcmp hx hb dX6_meant_2 ?_
  refine lv_topi (fun v_1 ev_1 => ?_)
  clear ev_1
  refine lv_if_ge (tgt := 27) hx hb dX6_meant_3 (by decide) (fun c_2 => ?_) (fun c_2 => ?_)
  · skip
    have ic_2 := iv_le c_2
    refine lv_lload_n hx hb dX6_meant_27 rfl (lv_at hl 1 rfl) ?_
    exact W.lret hx hb hr (fun t ht hW => ⟨_, rfl, trivial, ht⟩) (fun q h => by cases h) dX6_meant_28
  · skip
    have ic_2 := iv_nle c_2
    refine lv_lload_n hx hb dX6_meant_6 rfl (lv_at hl 1 rfl) ?_
    refine lv_ldc2 hx hb hown (hts (.constantLong RX6 119 (-128)) (by decide +kernel)) dX6_meant_7 ?_
    refine W.lcmp hx hb dX6_meant_10 ?_
    refine lv_topi (fun v_3 ev_3 => ?_)
    clear ev_3
    refine lv_if_lt (tgt := 27) hx hb dX6_meant_11 (by decide) (fun c_4 => ?_) (fun c_4 => ?_)
    · skip
      have ic_4 := iv_lt c_4
      refine lv_lload_n hx hb dX6_meant_27 rfl (lv_at hl 1 rfl) ?_
      exact W.lret hx hb hr (fun t ht hW => ⟨_, rfl, trivial, ht⟩) (fun q h => by cases h) dX6_meant_28
    · skip
      have ic_4 := iv_nlt c_4
      refine lv_aload_n hx hb dX6_meant_14 rfl (lv_at hl 0 rfl) ?_
      refine lv_ldc2 hx hb hown (hts (.constantLong RX6 121 (-1)) (by decide +kernel)) dX6_meant_15 ?_
      refine lv_lload_n hx hb dX6_meant_18 rfl (lv_at hl 1 rfl) ?_
      refine lv_lsub hx hb dX6_meant_19 ?_
      refine lv_topl (fun w_5 ew_5 => ?_)
      clear ew_5
      refine lv_l2i hx hb dX6_meant_20 rfl ?_
      refine lv_topi (fun v_6 ev_6 => ?_)
      clear ev_6
      refine vp_callSl (va_Run.run (va_runV (As := [.int v_6]) (rest := []) ⟨hx, hb, hml, hown, hts⟩ (v_X6_digestAt l dC dI c kc st lg ai al R v_6 (show 0 ≤ (st 25).toInt by omega) (show (st 25).toInt ≤ 128 by omega)) (cwV 1 hts gX6_meant_X6_digestAt rfl rfl rfl (by decide +kernel) ⟨Nat.le_of_ble_eq_true rfl, Nat.le_of_ble_eq_true rfl⟩) ⟨fun a U g mk q => by obtain ⟨q0, qP, qK⟩ := q; exact ⟨q0, qP, va_K.moved (u := U) (U := U.calling g mk a) (Vm.Alike.refl U.vm) qK⟩, va_recv hK hP (ci := 8) (q := (RX6, TX6, 12)) rfl (q0 := 5) rfl, fun U hU hW => ⟨rfl, by rw [hU]; exact hP, va_K.moved hW.alike hK⟩⟩ rfl rfl hl.1 rfl (lv_room (Nat.le_of_ble_eq_true rfl)) dX6_meant_21 ⟨Nat.le_of_ble_eq_true rfl, Nat.le_of_ble_eq_true rfl⟩)) (fun r_7 er_7 => ?_)
      refine lv_goto (tgt := 28) hx hb dX6_meant_24 (by decide) ?_
      exact W.lret hx hb hr (fun t ht hW => ⟨_, rfl, trivial, ht⟩) (fun q h => by cases h) dX6_meant_28

set_option maxHeartbeats 4000000 in
set_option maxRecDepth 100000 in
theorem v_X6_heightOfParent (l : Launch) (dC : Nat → ClassId) (dI : Nat → Nat → Nat) (c : Nat → Nat) (kc : Nat → ClassId) (st : Nat → Int32) (lg : Nat → Int64) (ai : Nat → Nat → Int32) (al : Nat → Nat → Int64) (R : va_W) (p0 : Int64) (hf15a : 0 ≤ (st 15).toInt) (hf15b : (st 15).toInt ≤ 1) (hf25a : 0 ≤ (st 25).toInt) (hf25b : (st 25).toInt ≤ 128) (hf28a : 0 ≤ (st 28).toInt) (hf28b : (st 28).toInt ≤ 1) : Met l yX6_heightOfParent wsX6_heightOfParent ({ frames := 2, cells := 0, slots := 0, locals := 44 }) (va_Pc [.ref (c 105), .long p0] (fun U => va_P (dC, dI) vwCl (cw_W c kc st lg ai al R) U.heap ∧ va_K (dC, dI) vwCl (cw_T kc) U ∧ gx_W U)) (vp_Si (fun r => True)) 0 0 (fun _ => False) := by
  refine Met.ofW (cc := cX6_heightOfParent) (maxL := 4) (ret := (some .int)) (by decide) rfl ?_
  intro p e s m args below meth cM s₁ B hml hv
  obtain ⟨rfl, hP, hK, hG⟩ := hv
  have hx := B.exec
  have hb := B.bytes
  have hr := B.returns
  have hts := atoms_spec (ws := wsX6_heightOfParent) B.pre
  have hown : s.vm.findClass RX6 = some m.cls := findClass_of_methodNamed B.named
  have hGW := hG
  have hl := lv_entry ([.ref (c 105), .long p0]) (n := 4) (Nat.le_of_ble_eq_true rfl)
  rw [lg_entry_eq]
  generalize (lg_sl ([.ref (c 105), .long p0]) ++ List.replicate (4 - (lg_sl ([.ref (c 105), .long p0])).length) Slot.unset).toArray = ls at hl ⊢
  have hl : lv_has ls 4 [(0, .ref (c 105)), (1, .long p0)] := hl
  have z_m1 : (-1 : Int32).toInt = -1 := by decide
  have z_0 : (0 : Int32).toInt = 0 := by decide
  have hin_X6 : ∀ w ∈ u_ws RX6 TX6 12, w ∈ wsX6_heightOfParent := by decide +kernel
  refine lv_lload_n hx hb dX6_heightOfParent_0 rfl (lv_at hl 1 rfl) ?_
  refine lv_aload_n hx hb dX6_heightOfParent_1 rfl (lv_at hl 0 rfl) ?_
  refine va_get (D := (dC, dI)) (ci := 8) (v := .int (st 28)) (C := RX6) (T := TX6) (N := 12) hx hb hts hin_X6 hown hK hP 5 rfl rfl 10 (by decide) (hts (.fieldLink RX6 46 "BlockLog$Story" "based" "Z") (by decide +kernel)) (fun _ h9 => h9) rfl dX6_heightOfParent_2 ?_
  refine lv_if_eq (tgt := 17) hx hb dX6_heightOfParent_5 (by decide) (fun c_1 => ?_) (fun c_1 => ?_)
  · skip
    have ic_1 := iv_eq c_1
    refine lv_lconst (v := 0) hx hb dX6_heightOfParent_17 (by decide) ?_
    refine W.lcmp hx hb dX6_heightOfParent_18 ?_
    refine lv_topi (fun v_2 ev_2 => ?_)
    clear ev_2
    refine lv_if_ne (tgt := 27) hx hb dX6_heightOfParent_19 (by decide) (fun c_3 => ?_) (fun c_3 => ?_)
    · skip
      have ic_3 := iv_ne c_3
      refine lv_aload_n hx hb dX6_heightOfParent_27 rfl (lv_at hl 0 rfl) ?_
      refine lv_lload_n hx hb dX6_heightOfParent_28 rfl (lv_at hl 1 rfl) ?_
      refine vp_callSi (va_Run.run (va_runV (As := [.long p0]) (rest := []) ⟨hx, hb, hml, hown, hts⟩ (v_X6_blockRow l dC dI c kc st lg ai al R p0 (show 0 ≤ (st 25).toInt by omega) (show (st 25).toInt ≤ 128 by omega)) (cwV 1 hts gX6_heightOfParent_X6_blockRow rfl rfl rfl (by decide +kernel) ⟨Nat.le_of_ble_eq_true rfl, Nat.le_of_ble_eq_true rfl⟩) ⟨fun a U g mk q => by obtain ⟨q0, qP, qK⟩ := q; exact ⟨q0, qP, va_K.moved (u := U) (U := U.calling g mk a) (Vm.Alike.refl U.vm) qK⟩, va_recv hK hP (ci := 8) (q := (RX6, TX6, 12)) rfl (q0 := 5) rfl, fun U hU hW => ⟨rfl, by rw [hU]; exact hP, va_K.moved hW.alike hK⟩⟩ rfl rfl hl.1 rfl (lv_room (Nat.le_of_ble_eq_true rfl)) dX6_heightOfParent_29 ⟨Nat.le_of_ble_eq_true rfl, Nat.le_of_ble_eq_true rfl⟩)) (fun r_4 er_4 => ?_)
      obtain ⟨k_5, k_6⟩ := er_4
      have k_6 : r_4.toInt < (st 25).toInt := k_6
      refine lv_istore_n (lv' := [(3, .int r_4), (0, .ref (c 105)), (1, .long p0)]) hx hb dX6_heightOfParent_32 rfl hl (by decide) rfl (fun ls hl => ?_)
      refine lv_iload_n hx hb dX6_heightOfParent_33 rfl (lv_at hl 0 rfl) ?_
      refine lv_iconst (v := (-1)) hx hb dX6_heightOfParent_34 (by decide) ?_
      refine lv_icmp_ne (tgt := 42) hx hb dX6_heightOfParent_35 (by decide) (fun c_7 => ?_) (fun c_7 => ?_)
      · skip
        have ic_7 := iv_ne c_7
        refine lv_aload_n hx hb dX6_heightOfParent_42 rfl (lv_at hl 1 rfl) ?_
        refine va_get (D := (dC, dI)) (ci := 8) (v := .ref (c 104)) (C := RX6) (T := TX6) (N := 12) hx hb hts hin_X6 hown hK hP 5 rfl rfl 0 (by decide) (hts (.fieldLink RX6 9 "BlockLog$Story" "rows" "LBlockLog$Rows;") (by decide +kernel)) (fun _ h9 => h9) rfl dX6_heightOfParent_43 ?_
        refine lv_iload_n hx hb dX6_heightOfParent_46 rfl (lv_at hl 0 rfl) ?_
        refine vp_callSi (va_Run.run (va_runV (As := [.int r_4]) (rest := []) ⟨hx, hb, hml, hown, hts⟩ (v_X4_a l dC dI c kc st lg ai al R r_4 (show 0 ≤ (st 15).toInt by omega) (show (st 15).toInt ≤ 1 by omega) (by omega) (by omega)) (cwV 1 hts gX6_heightOfParent_X4_a rfl rfl rfl (by decide +kernel) ⟨Nat.le_of_ble_eq_true rfl, Nat.le_of_ble_eq_true rfl⟩) ⟨fun a U g mk q => by obtain ⟨q0, qP, qK, qG⟩ := q; exact ⟨q0, qP, va_K.moved (u := U) (U := U.calling g mk a) (Vm.Alike.refl U.vm) qK, qG.same rfl⟩, va_recv hK hP (ci := 6) (q := (RX4, TX4, 6)) rfl (q0 := 4) rfl, fun U hU hW => ⟨rfl, by rw [hU]; exact hP, va_K.moved hW.alike hK, hGW.warm hW⟩⟩ rfl rfl hl.1 rfl (lv_room (Nat.le_of_ble_eq_true rfl)) dX6_heightOfParent_47 ⟨Nat.le_of_ble_eq_true rfl, Nat.le_of_ble_eq_true rfl⟩)) (fun r_8 er_8 => ?_)
        exact W.iret hx hb hr (fun t ht hW => ⟨_, rfl, trivial, ht⟩) (fun q h => by cases h) dX6_heightOfParent_50
      · skip
        have ic_7 := iv_eq c_7
        refine lv_iconst (v := (-1)) hx hb dX6_heightOfParent_38 (by decide) ?_
        refine lv_goto (tgt := 50) hx hb dX6_heightOfParent_39 (by decide) ?_
        exact W.iret hx hb hr (fun t ht hW => ⟨_, rfl, trivial, ht⟩) (fun q h => by cases h) dX6_heightOfParent_50
    · skip
      have ic_3 := iv_eq c_3
      refine lv_aload_n hx hb dX6_heightOfParent_22 rfl (lv_at hl 0 rfl) ?_
      refine va_get (D := (dC, dI)) (ci := 8) (v := .int (st 29)) (C := RX6) (T := TX6) (N := 12) hx hb hts hin_X6 hown hK hP 5 rfl rfl 11 (by decide) (hts (.fieldLink RX6 50 "BlockLog$Story" "baseHeight" "I") (by decide +kernel)) (fun _ h9 => h9) rfl dX6_heightOfParent_23 ?_
      exact W.iret hx hb hr (fun t ht hW => ⟨_, rfl, trivial, ht⟩) (fun q h => by cases h) dX6_heightOfParent_26
  · skip
    have ic_1 := iv_ne c_1
    refine lv_aload_n hx hb dX6_heightOfParent_8 rfl (lv_at hl 0 rfl) ?_
    refine va_get (D := (dC, dI)) (ci := 8) (v := .ref (c 19)) (C := RX6) (T := TX6) (N := 12) hx hb hts hin_X6 hown hK hP 5 rfl rfl 1 (by decide) (hts (.fieldLink RX6 15 "BlockLog$Story" "digests" "[J") (by decide +kernel)) (fun _ h9 => h9) rfl dX6_heightOfParent_9 ?_
    refine lv_iconst (v := 0) hx hb dX6_heightOfParent_12 (by decide) ?_
    refine va_lald (f := al 19) hx hb hK hP 15 7 rfl rfl (iv_in (i := (0 : Int32)) (by omega) (by omega)) dX6_heightOfParent_13 ?_
    refine lv_topl (fun w_9 ew_9 => ?_)
    clear ew_9
    refine lv_goto (tgt := 18) hx hb dX6_heightOfParent_14 (by decide) ?_
    refine W.lcmp hx hb dX6_heightOfParent_18 ?_
    refine lv_topi (fun v_10 ev_10 => ?_)
    clear ev_10
    refine lv_if_ne (tgt := 27) hx hb dX6_heightOfParent_19 (by decide) (fun c_11 => ?_) (fun c_11 => ?_)
    · skip
      have ic_11 := iv_ne c_11
      refine lv_aload_n hx hb dX6_heightOfParent_27 rfl (lv_at hl 0 rfl) ?_
      refine lv_lload_n hx hb dX6_heightOfParent_28 rfl (lv_at hl 1 rfl) ?_
      refine vp_callSi (va_Run.run (va_runV (As := [.long p0]) (rest := []) ⟨hx, hb, hml, hown, hts⟩ (v_X6_blockRow l dC dI c kc st lg ai al R p0 (show 0 ≤ (st 25).toInt by omega) (show (st 25).toInt ≤ 128 by omega)) (cwV 1 hts gX6_heightOfParent_X6_blockRow rfl rfl rfl (by decide +kernel) ⟨Nat.le_of_ble_eq_true rfl, Nat.le_of_ble_eq_true rfl⟩) ⟨fun a U g mk q => by obtain ⟨q0, qP, qK⟩ := q; exact ⟨q0, qP, va_K.moved (u := U) (U := U.calling g mk a) (Vm.Alike.refl U.vm) qK⟩, va_recv hK hP (ci := 8) (q := (RX6, TX6, 12)) rfl (q0 := 5) rfl, fun U hU hW => ⟨rfl, by rw [hU]; exact hP, va_K.moved hW.alike hK⟩⟩ rfl rfl hl.1 rfl (lv_room (Nat.le_of_ble_eq_true rfl)) dX6_heightOfParent_29 ⟨Nat.le_of_ble_eq_true rfl, Nat.le_of_ble_eq_true rfl⟩)) (fun r_12 er_12 => ?_)
      obtain ⟨k_13, k_14⟩ := er_12
      have k_14 : r_12.toInt < (st 25).toInt := k_14
      refine lv_istore_n (lv' := [(3, .int r_12), (0, .ref (c 105)), (1, .long p0)]) hx hb dX6_heightOfParent_32 rfl hl (by decide) rfl (fun ls hl => ?_)
      refine lv_iload_n hx hb dX6_heightOfParent_33 rfl (lv_at hl 0 rfl) ?_
      refine lv_iconst (v := (-1)) hx hb dX6_heightOfParent_34 (by decide) ?_
      refine lv_icmp_ne (tgt := 42) hx hb dX6_heightOfParent_35 (by decide) (fun c_15 => ?_) (fun c_15 => ?_)
      · skip
        have ic_15 := iv_ne c_15
        refine lv_aload_n hx hb dX6_heightOfParent_42 rfl (lv_at hl 1 rfl) ?_
        refine va_get (D := (dC, dI)) (ci := 8) (v := .ref (c 104)) (C := RX6) (T := TX6) (N := 12) hx hb hts hin_X6 hown hK hP 5 rfl rfl 0 (by decide) (hts (.fieldLink RX6 9 "BlockLog$Story" "rows" "LBlockLog$Rows;") (by decide +kernel)) (fun _ h9 => h9) rfl dX6_heightOfParent_43 ?_
        refine lv_iload_n hx hb dX6_heightOfParent_46 rfl (lv_at hl 0 rfl) ?_
        refine vp_callSi (va_Run.run (va_runV (As := [.int r_12]) (rest := []) ⟨hx, hb, hml, hown, hts⟩ (v_X4_a l dC dI c kc st lg ai al R r_12 (show 0 ≤ (st 15).toInt by omega) (show (st 15).toInt ≤ 1 by omega) (by omega) (by omega)) (cwV 1 hts gX6_heightOfParent_X4_a rfl rfl rfl (by decide +kernel) ⟨Nat.le_of_ble_eq_true rfl, Nat.le_of_ble_eq_true rfl⟩) ⟨fun a U g mk q => by obtain ⟨q0, qP, qK, qG⟩ := q; exact ⟨q0, qP, va_K.moved (u := U) (U := U.calling g mk a) (Vm.Alike.refl U.vm) qK, qG.same rfl⟩, va_recv hK hP (ci := 6) (q := (RX4, TX4, 6)) rfl (q0 := 4) rfl, fun U hU hW => ⟨rfl, by rw [hU]; exact hP, va_K.moved hW.alike hK, hGW.warm hW⟩⟩ rfl rfl hl.1 rfl (lv_room (Nat.le_of_ble_eq_true rfl)) dX6_heightOfParent_47 ⟨Nat.le_of_ble_eq_true rfl, Nat.le_of_ble_eq_true rfl⟩)) (fun r_16 er_16 => ?_)
        exact W.iret hx hb hr (fun t ht hW => ⟨_, rfl, trivial, ht⟩) (fun q h => by cases h) dX6_heightOfParent_50
      · skip
        have ic_15 := iv_eq c_15
        refine lv_iconst (v := (-1)) hx hb dX6_heightOfParent_38 (by decide) ?_
        refine lv_goto (tgt := 50) hx hb dX6_heightOfParent_39 (by decide) ?_
        exact W.iret hx hb hr (fun t ht hW => ⟨_, rfl, trivial, ht⟩) (fun q h => by cases h) dX6_heightOfParent_50
    · skip
      have ic_11 := iv_eq c_11
      refine lv_aload_n hx hb dX6_heightOfParent_22 rfl (lv_at hl 0 rfl) ?_
      refine va_get (D := (dC, dI)) (ci := 8) (v := .int (st 29)) (C := RX6) (T := TX6) (N := 12) hx hb hts hin_X6 hown hK hP 5 rfl rfl 11 (by decide) (hts (.fieldLink RX6 50 "BlockLog$Story" "baseHeight" "I") (by decide +kernel)) (fun _ h9 => h9) rfl dX6_heightOfParent_23 ?_
      exact W.iret hx hb hr (fun t ht hW => ⟨_, rfl, trivial, ht⟩) (fun q h => by cases h) dX6_heightOfParent_26

set_option maxHeartbeats 4000000 in
set_option maxRecDepth 100000 in
theorem v_X6_lastVersion (l : Launch) (dC : Nat → ClassId) (dI : Nat → Nat → Nat) (c : Nat → Nat) (kc : Nat → ClassId) (st : Nat → Int32) (lg : Nat → Int64) (ai : Nat → Nat → Int32) (al : Nat → Nat → Int64) (R : va_W)  (hf26a : 0 ≤ (st 26).toInt) (hf26b : (st 26).toInt ≤ 128) : Met l yX6_lastVersion wsX6_lastVersion ({ frames := 0, cells := 0, slots := 0, locals := 0 }) (va_Pc [.ref (c 105)] (fun U => va_P (dC, dI) vwCl (cw_W c kc st lg ai al R) U.heap ∧ va_K (dC, dI) vwCl (cw_T kc) U)) (vp_Si (fun r => True)) 0 0 (fun _ => False) := by
  refine Met.ofW (cc := cX6_lastVersion) (maxL := 1) (ret := (some .int)) (by decide) rfl ?_
  intro p e s m args below meth cM s₁ B hml hv
  obtain ⟨rfl, hP, hK⟩ := hv
  have hx := B.exec
  have hb := B.bytes
  have hr := B.returns
  have hts := atoms_spec (ws := wsX6_lastVersion) B.pre
  have hown : s.vm.findClass RX6 = some m.cls := findClass_of_methodNamed B.named
  have hl := lv_entry ([.ref (c 105)]) (n := 1) (Nat.le_of_ble_eq_true rfl)
  rw [lg_entry_eq]
  generalize (lg_sl ([.ref (c 105)]) ++ List.replicate (1 - (lg_sl ([.ref (c 105)])).length) Slot.unset).toArray = ls at hl ⊢
  have hl : lv_has ls 1 [(0, .ref (c 105))] := hl
  have hin_X6 : ∀ w ∈ u_ws RX6 TX6 12, w ∈ wsX6_lastVersion := by decide +kernel
  refine lv_aload_n hx hb dX6_lastVersion_0 rfl (lv_at hl 0 rfl) ?_
  refine va_get (D := (dC, dI)) (ci := 8) (v := .int (st 29)) (C := RX6) (T := TX6) (N := 12) hx hb hts hin_X6 hown hK hP 5 rfl rfl 11 (by decide) (hts (.fieldLink RX6 50 "BlockLog$Story" "baseHeight" "I") (by decide +kernel)) (fun _ h9 => h9) rfl dX6_lastVersion_1 ?_
  refine lv_aload_n hx hb dX6_lastVersion_4 rfl (lv_at hl 0 rfl) ?_
  refine va_get (D := (dC, dI)) (ci := 8) (v := .int (st 26)) (C := RX6) (T := TX6) (N := 12) hx hb hts hin_X6 hown hK hP 5 rfl rfl 8 (by decide) (hts (.fieldLink RX6 40 "BlockLog$Story" "certified" "I") (by decide +kernel)) (fun _ h9 => h9) rfl dX6_lastVersion_5 ?_
  refine lv_iadd hx hb dX6_lastVersion_8 ?_
  refine lv_topi (fun v_1 ev_1 => ?_)
  clear ev_1
  exact W.iret hx hb hr (fun t ht hW => ⟨_, rfl, trivial, ht⟩) (fun q h => by cases h) dX6_lastVersion_9

set_option maxHeartbeats 4000000 in
set_option maxRecDepth 100000 in
theorem v_X6_isKept (l : Launch) (dC : Nat → ClassId) (dI : Nat → Nat → Nat) (c : Nat → Nat) (kc : Nat → ClassId) (st : Nat → Int32) (lg : Nat → Int64) (ai : Nat → Nat → Int32) (al : Nat → Nat → Int64) (R : va_W) (p0 : Int32) (hf26a : 0 ≤ (st 26).toInt) (hf26b : (st 26).toInt ≤ 128) : Met l yX6_isKept wsX6_isKept ({ frames := 1, cells := 0, slots := 0, locals := 20 }) (va_Pc [.ref (c 105), .int p0] (fun U => va_P (dC, dI) vwCl (cw_W c kc st lg ai al R) U.heap ∧ va_K (dC, dI) vwCl (cw_T kc) U)) (vp_Si (fun r => (0 ≤ r.toInt) ∧ (r.toInt ≤ 1))) 0 0 (fun _ => False) := by
  refine Met.ofW (cc := cX6_isKept) (maxL := 2) (ret := (some .boolean)) (by decide) rfl ?_
  intro p e s m args below meth cM s₁ B hml hv
  obtain ⟨rfl, hP, hK⟩ := hv
  have hx := B.exec
  have hb := B.bytes
  have hr := B.returns
  have hts := atoms_spec (ws := wsX6_isKept) B.pre
  have hown : s.vm.findClass RX6 = some m.cls := findClass_of_methodNamed B.named
  have hl := lv_entry ([.ref (c 105), .int p0]) (n := 2) (Nat.le_of_ble_eq_true rfl)
  rw [lg_entry_eq]
  generalize (lg_sl ([.ref (c 105), .int p0]) ++ List.replicate (2 - (lg_sl ([.ref (c 105), .int p0])).length) Slot.unset).toArray = ls at hl ⊢
  have hl : lv_has ls 2 [(0, .ref (c 105)), (1, .int p0)] := hl
  have z_0 : (0 : Int32).toInt = 0 := by decide
  have z_1 : (1 : Int32).toInt = 1 := by decide
  have hin_X6 : ∀ w ∈ u_ws RX6 TX6 12, w ∈ wsX6_isKept := by decide +kernel
  refine lv_aload_n hx hb dX6_isKept_0 rfl (lv_at hl 0 rfl) ?_
  refine va_get (D := (dC, dI)) (ci := 8) (v := .ref (c 104)) (C := RX6) (T := TX6) (N := 12) hx hb hts hin_X6 hown hK hP 5 rfl rfl 0 (by decide) (hts (.fieldLink RX6 9 "BlockLog$Story" "rows" "LBlockLog$Rows;") (by decide +kernel)) (fun _ h9 => h9) rfl dX6_isKept_1 ?_
  refine vp_callSi (va_Run.run (va_runV (As := []) (rest := []) ⟨hx, hb, hml, hown, hts⟩ (v_X4_inNeed l dC dI c kc st lg ai al R  ) (cwV 0 hts gX6_isKept_X4_inNeed rfl rfl rfl (by decide +kernel) ⟨Nat.le_of_ble_eq_true rfl, Nat.le_of_ble_eq_true rfl⟩) ⟨fun a U g mk q => by obtain ⟨q0, qP, qK⟩ := q; exact ⟨q0, qP, va_K.moved (u := U) (U := U.calling g mk a) (Vm.Alike.refl U.vm) qK⟩, va_recv hK hP (ci := 6) (q := (RX4, TX4, 6)) rfl (q0 := 4) rfl, fun U hU hW => ⟨rfl, by rw [hU]; exact hP, va_K.moved hW.alike hK⟩⟩ rfl rfl hl.1 rfl (lv_room (Nat.le_of_ble_eq_true rfl)) dX6_isKept_4 ⟨Nat.le_of_ble_eq_true rfl, Nat.le_of_ble_eq_true rfl⟩)) (fun r_1 er_1 => ?_)
  obtain ⟨k_2, k_3⟩ := er_1
  rcases iv_01 (a := r_1) (by omega) (by omega) with b_4 | b_4
  · skip
    have ib_4 := iv_eq b_4
    rw [b_4]
    refine lv_if_ne (tgt := 30) hx hb dX6_isKept_7 (by decide) (fun c_5 => ?_) (fun c_5 => ?_)
    · skip
      have ic_5 := iv_ne c_5
      exfalso
      omega
    · skip
      have ic_5 := iv_eq c_5
      refine lv_iload_n hx hb dX6_isKept_10 rfl (lv_at hl 1 rfl) ?_
      refine lv_aload_n hx hb dX6_isKept_11 rfl (lv_at hl 0 rfl) ?_
      refine va_get (D := (dC, dI)) (ci := 8) (v := .int (st 29)) (C := RX6) (T := TX6) (N := 12) hx hb hts hin_X6 hown hK hP 5 rfl rfl 11 (by decide) (hts (.fieldLink RX6 50 "BlockLog$Story" "baseHeight" "I") (by decide +kernel)) (fun _ h9 => h9) rfl dX6_isKept_12 ?_
      refine lv_icmp_lt (tgt := 30) hx hb dX6_isKept_15 (by decide) (fun c_6 => ?_) (fun c_6 => ?_)
      · skip
        have ic_6 := iv_lt c_6
        refine lv_iconst (v := 0) hx hb dX6_isKept_30 (by decide) ?_
        exact W.zret hx hb hr rfl (fun t ht hW => ⟨_, rfl, ⟨(by omega), (by omega)⟩, ht⟩) (fun q h => by cases h) dX6_isKept_31
      · skip
        have ic_6 := iv_nlt c_6
        refine lv_iload_n hx hb dX6_isKept_18 rfl (lv_at hl 1 rfl) ?_
        refine lv_aload_n hx hb dX6_isKept_19 rfl (lv_at hl 0 rfl) ?_
        refine vp_callSi (va_Run.run (va_runV (As := []) (rest := [.int p0]) ⟨hx, hb, hml, hown, hts⟩ (v_X6_lastVersion l dC dI c kc st lg ai al R  (show 0 ≤ (st 26).toInt by omega) (show (st 26).toInt ≤ 128 by omega)) (cwV 0 hts gX6_isKept_X6_lastVersion rfl rfl rfl (by decide +kernel) ⟨Nat.le_of_ble_eq_true rfl, Nat.le_of_ble_eq_true rfl⟩) ⟨fun a U g mk q => by obtain ⟨q0, qP, qK⟩ := q; exact ⟨q0, qP, va_K.moved (u := U) (U := U.calling g mk a) (Vm.Alike.refl U.vm) qK⟩, va_recv hK hP (ci := 8) (q := (RX6, TX6, 12)) rfl (q0 := 5) rfl, fun U hU hW => ⟨rfl, by rw [hU]; exact hP, va_K.moved hW.alike hK⟩⟩ rfl rfl hl.1 rfl (lv_room (Nat.le_of_ble_eq_true rfl)) dX6_isKept_20 ⟨Nat.le_of_ble_eq_true rfl, Nat.le_of_ble_eq_true rfl⟩)) (fun r_7 er_7 => ?_)
        refine lv_icmp_gt (tgt := 30) hx hb dX6_isKept_23 (by decide) (fun c_8 => ?_) (fun c_8 => ?_)
        · skip
          have ic_8 := iv_lt c_8
          refine lv_iconst (v := 0) hx hb dX6_isKept_30 (by decide) ?_
          exact W.zret hx hb hr rfl (fun t ht hW => ⟨_, rfl, ⟨(by omega), (by omega)⟩, ht⟩) (fun q h => by cases h) dX6_isKept_31
        · skip
          have ic_8 := iv_nlt c_8
          refine lv_iconst (v := 1) hx hb dX6_isKept_26 (by decide) ?_
          refine lv_goto (tgt := 31) hx hb dX6_isKept_27 (by decide) ?_
          exact W.zret hx hb hr rfl (fun t ht hW => ⟨_, rfl, ⟨(by omega), (by omega)⟩, ht⟩) (fun q h => by cases h) dX6_isKept_31
  · skip
    have ib_4 := iv_eq b_4
    rw [b_4]
    refine lv_if_ne (tgt := 30) hx hb dX6_isKept_7 (by decide) (fun c_9 => ?_) (fun c_9 => ?_)
    · skip
      have ic_9 := iv_ne c_9
      refine lv_iconst (v := 0) hx hb dX6_isKept_30 (by decide) ?_
      exact W.zret hx hb hr rfl (fun t ht hW => ⟨_, rfl, ⟨(by omega), (by omega)⟩, ht⟩) (fun q h => by cases h) dX6_isKept_31
    · skip
      have ic_9 := iv_eq c_9
      exfalso
      omega

set_option maxHeartbeats 4000000 in
set_option maxRecDepth 100000 in
theorem v_X6_blockOf (l : Launch) (dC : Nat → ClassId) (dI : Nat → Nat → Nat) (c : Nat → Nat) (kc : Nat → ClassId) (st : Nat → Int32) (lg : Nat → Int64) (ai : Nat → Nat → Int32) (al : Nat → Nat → Int64) (R : va_W) (p0 : Int32) (hf26a : 0 ≤ (st 26).toInt) (hf26b : (st 26).toInt ≤ 128) (hf28a : 0 ≤ (st 28).toInt) (hf28b : (st 28).toInt ≤ 1) (hR23 : aR (ai 23) 128 (0) 127) : Met l yX6_blockOf wsX6_blockOf ({ frames := 0, cells := 0, slots := 0, locals := 0 }) (va_Pc [.ref (c 105), .int p0] (fun U => va_P (dC, dI) vwCl (cw_W c kc st lg ai al R) U.heap ∧ va_K (dC, dI) vwCl (cw_T kc) U)) (vp_Sl (fun r => True)) 0 0 (fun _ => False) := by
  refine Met.ofW (cc := cX6_blockOf) (maxL := 3) (ret := (some .long)) (by decide) rfl ?_
  intro p e s m args below meth cM s₁ B hml hv
  obtain ⟨rfl, hP, hK⟩ := hv
  have hx := B.exec
  have hb := B.bytes
  have hr := B.returns
  have hts := atoms_spec (ws := wsX6_blockOf) B.pre
  have hown : s.vm.findClass RX6 = some m.cls := findClass_of_methodNamed B.named
  have hl := lv_entry ([.ref (c 105), .int p0]) (n := 3) (Nat.le_of_ble_eq_true rfl)
  rw [lg_entry_eq]
  generalize (lg_sl ([.ref (c 105), .int p0]) ++ List.replicate (3 - (lg_sl ([.ref (c 105), .int p0])).length) Slot.unset).toArray = ls at hl ⊢
  have hl : lv_has ls 3 [(0, .ref (c 105)), (1, .int p0)] := hl
  have z_0 : (0 : Int32).toInt = 0 := by decide
  have z_1 : (1 : Int32).toInt = 1 := by decide
  have hin_X6 : ∀ w ∈ u_ws RX6 TX6 12, w ∈ wsX6_blockOf := by decide +kernel
  refine lv_iload_n hx hb dX6_blockOf_0 rfl (lv_at hl 1 rfl) ?_
  refine lv_aload_n hx hb dX6_blockOf_1 rfl (lv_at hl 0 rfl) ?_
  refine va_get (D := (dC, dI)) (ci := 8) (v := .int (st 29)) (C := RX6) (T := TX6) (N := 12) hx hb hts hin_X6 hown hK hP 5 rfl rfl 11 (by decide) (hts (.fieldLink RX6 50 "BlockLog$Story" "baseHeight" "I") (by decide +kernel)) (fun _ h9 => h9) rfl dX6_blockOf_2 ?_
  refine lv_isub hx hb dX6_blockOf_5 ?_
  refine lv_topi (fun v_1 ev_1 => ?_)
  clear ev_1
  refine lv_iconst (v := 1) hx hb dX6_blockOf_6 (by decide) ?_
  refine lv_isub hx hb dX6_blockOf_7 ?_
  refine lv_topi (fun v_2 ev_2 => ?_)
  clear ev_2
  refine lv_istore_n (lv' := [(2, .int v_2), (0, .ref (c 105)), (1, .int p0)]) hx hb dX6_blockOf_8 rfl hl (by decide) rfl (fun ls hl => ?_)
  refine lv_iload_n hx hb dX6_blockOf_9 rfl (lv_at hl 0 rfl) ?_
  refine lv_if_lt (tgt := 33) hx hb dX6_blockOf_10 (by decide) (fun c_3 => ?_) (fun c_3 => ?_)
  · skip
    have ic_3 := iv_lt c_3
    refine lv_aload_n hx hb dX6_blockOf_33 rfl (lv_at hl 1 rfl) ?_
    refine va_get (D := (dC, dI)) (ci := 8) (v := .int (st 28)) (C := RX6) (T := TX6) (N := 12) hx hb hts hin_X6 hown hK hP 5 rfl rfl 10 (by decide) (hts (.fieldLink RX6 46 "BlockLog$Story" "based" "Z") (by decide +kernel)) (fun _ h9 => h9) rfl dX6_blockOf_34 ?_
    refine lv_if_eq (tgt := 49) hx hb dX6_blockOf_37 (by decide) (fun c_4 => ?_) (fun c_4 => ?_)
    · skip
      have ic_4 := iv_eq c_4
      refine lv_lconst (v := 0) hx hb dX6_blockOf_49 (by decide) ?_
      exact W.lret hx hb hr (fun t ht hW => ⟨_, rfl, trivial, ht⟩) (fun q h => by cases h) dX6_blockOf_50
    · skip
      have ic_4 := iv_ne c_4
      refine lv_aload_n hx hb dX6_blockOf_40 rfl (lv_at hl 1 rfl) ?_
      refine va_get (D := (dC, dI)) (ci := 8) (v := .ref (c 19)) (C := RX6) (T := TX6) (N := 12) hx hb hts hin_X6 hown hK hP 5 rfl rfl 1 (by decide) (hts (.fieldLink RX6 15 "BlockLog$Story" "digests" "[J") (by decide +kernel)) (fun _ h9 => h9) rfl dX6_blockOf_41 ?_
      refine lv_iconst (v := 0) hx hb dX6_blockOf_44 (by decide) ?_
      refine va_lald (f := al 19) hx hb hK hP 15 7 rfl rfl (iv_in (i := (0 : Int32)) (by omega) (by omega)) dX6_blockOf_45 ?_
      refine lv_topl (fun w_5 ew_5 => ?_)
      clear ew_5
      refine lv_goto (tgt := 50) hx hb dX6_blockOf_46 (by decide) ?_
      exact W.lret hx hb hr (fun t ht hW => ⟨_, rfl, trivial, ht⟩) (fun q h => by cases h) dX6_blockOf_50
  · skip
    have ic_3 := iv_nlt c_3
    refine lv_iload_n hx hb dX6_blockOf_13 rfl (lv_at hl 0 rfl) ?_
    refine lv_aload_n hx hb dX6_blockOf_14 rfl (lv_at hl 1 rfl) ?_
    refine va_get (D := (dC, dI)) (ci := 8) (v := .int (st 26)) (C := RX6) (T := TX6) (N := 12) hx hb hts hin_X6 hown hK hP 5 rfl rfl 8 (by decide) (hts (.fieldLink RX6 40 "BlockLog$Story" "certified" "I") (by decide +kernel)) (fun _ h9 => h9) rfl dX6_blockOf_15 ?_
    refine lv_icmp_ge (tgt := 33) hx hb dX6_blockOf_18 (by decide) (fun c_6 => ?_) (fun c_6 => ?_)
    · skip
      have ic_6 := iv_le c_6
      refine lv_aload_n hx hb dX6_blockOf_33 rfl (lv_at hl 1 rfl) ?_
      refine va_get (D := (dC, dI)) (ci := 8) (v := .int (st 28)) (C := RX6) (T := TX6) (N := 12) hx hb hts hin_X6 hown hK hP 5 rfl rfl 10 (by decide) (hts (.fieldLink RX6 46 "BlockLog$Story" "based" "Z") (by decide +kernel)) (fun _ h9 => h9) rfl dX6_blockOf_34 ?_
      refine lv_if_eq (tgt := 49) hx hb dX6_blockOf_37 (by decide) (fun c_7 => ?_) (fun c_7 => ?_)
      · skip
        have ic_7 := iv_eq c_7
        refine lv_lconst (v := 0) hx hb dX6_blockOf_49 (by decide) ?_
        exact W.lret hx hb hr (fun t ht hW => ⟨_, rfl, trivial, ht⟩) (fun q h => by cases h) dX6_blockOf_50
      · skip
        have ic_7 := iv_ne c_7
        refine lv_aload_n hx hb dX6_blockOf_40 rfl (lv_at hl 1 rfl) ?_
        refine va_get (D := (dC, dI)) (ci := 8) (v := .ref (c 19)) (C := RX6) (T := TX6) (N := 12) hx hb hts hin_X6 hown hK hP 5 rfl rfl 1 (by decide) (hts (.fieldLink RX6 15 "BlockLog$Story" "digests" "[J") (by decide +kernel)) (fun _ h9 => h9) rfl dX6_blockOf_41 ?_
        refine lv_iconst (v := 0) hx hb dX6_blockOf_44 (by decide) ?_
        refine va_lald (f := al 19) hx hb hK hP 15 7 rfl rfl (iv_in (i := (0 : Int32)) (by omega) (by omega)) dX6_blockOf_45 ?_
        refine lv_topl (fun w_8 ew_8 => ?_)
        clear ew_8
        refine lv_goto (tgt := 50) hx hb dX6_blockOf_46 (by decide) ?_
        exact W.lret hx hb hr (fun t ht hW => ⟨_, rfl, trivial, ht⟩) (fun q h => by cases h) dX6_blockOf_50
    · skip
      have ic_6 := iv_nle c_6
      refine lv_aload_n hx hb dX6_blockOf_21 rfl (lv_at hl 1 rfl) ?_
      refine va_get (D := (dC, dI)) (ci := 8) (v := .ref (c 19)) (C := RX6) (T := TX6) (N := 12) hx hb hts hin_X6 hown hK hP 5 rfl rfl 1 (by decide) (hts (.fieldLink RX6 15 "BlockLog$Story" "digests" "[J") (by decide +kernel)) (fun _ h9 => h9) rfl dX6_blockOf_22 ?_
      refine lv_aload_n hx hb dX6_blockOf_25 rfl (lv_at hl 1 rfl) ?_
      refine va_get (D := (dC, dI)) (ci := 8) (v := .ref (c 23)) (C := RX6) (T := TX6) (N := 12) hx hb hts hin_X6 hown hK hP 5 rfl rfl 5 (by decide) (hts (.fieldLink RX6 29 "BlockLog$Story" "chain" "[I") (by decide +kernel)) (fun _ h9 => h9) rfl dX6_blockOf_26 ?_
      refine lv_iload_n hx hb dX6_blockOf_29 rfl (lv_at hl 0 rfl) ?_
      refine va_iald (f := ai 23) hx hb hK hP 19 11 rfl rfl (iv_in (i := v_2) (by omega) (by omega)) dX6_blockOf_30 ?_
      refine lv_topi (fun v_9 ev_9 => ?_)
      have k_10 : 0 ≤ v_9.toInt ∧ v_9.toInt ≤ 127 := aR_get hR23 (by omega) (by omega) ev_9
      clear ev_9
      refine va_lald (f := al 19) hx hb hK hP 15 7 rfl rfl (iv_in (i := v_9) (by omega) (by omega)) dX6_blockOf_31 ?_
      refine lv_topl (fun w_11 ew_11 => ?_)
      clear ew_11
      exact W.lret hx hb hr (fun t ht hW => ⟨_, rfl, trivial, ht⟩) (fun q h => by cases h) dX6_blockOf_32

set_option maxHeartbeats 4000000 in
set_option maxRecDepth 100000 in
theorem v_X6_isNext (l : Launch) (dC : Nat → ClassId) (dI : Nat → Nat → Nat) (c : Nat → Nat) (kc : Nat → ClassId) (st : Nat → Int32) (lg : Nat → Int64) (ai : Nat → Nat → Int32) (al : Nat → Nat → Int64) (R : va_W) (p0 : Int32) (hf15a : 0 ≤ (st 15).toInt) (hf15b : (st 15).toInt ≤ 1) (hf26a : 0 ≤ (st 26).toInt) (hf26b : (st 26).toInt ≤ 128) (hf28a : 0 ≤ (st 28).toInt) (hf28b : (st 28).toInt ≤ 1) (hq0 : 0 ≤ p0.toInt) (hq1 : p0.toInt ≤ 127) (hR23 : aR (ai 23) 128 (0) 127) : Met l yX6_isNext wsX6_isNext ({ frames := 2, cells := 0, slots := 0, locals := 45 }) (va_Pc [.ref (c 105), .int p0] (fun U => va_P (dC, dI) vwCl (cw_W c kc st lg ai al R) U.heap ∧ va_K (dC, dI) vwCl (cw_T kc) U ∧ gx_W U)) (vp_Si (fun r => (0 ≤ r.toInt) ∧ (r.toInt ≤ 1))) 0 0 (fun _ => False) := by
  refine Met.ofW (cc := cX6_isNext) (maxL := 2) (ret := (some .boolean)) (by decide) rfl ?_
  intro p e s m args below meth cM s₁ B hml hv
  obtain ⟨rfl, hP, hK, hG⟩ := hv
  have hx := B.exec
  have hb := B.bytes
  have hr := B.returns
  have hts := atoms_spec (ws := wsX6_isNext) B.pre
  have hown : s.vm.findClass RX6 = some m.cls := findClass_of_methodNamed B.named
  have hGW := hG
  have hl := lv_entry ([.ref (c 105), .int p0]) (n := 2) (Nat.le_of_ble_eq_true rfl)
  rw [lg_entry_eq]
  generalize (lg_sl ([.ref (c 105), .int p0]) ++ List.replicate (2 - (lg_sl ([.ref (c 105), .int p0])).length) Slot.unset).toArray = ls at hl ⊢
  have hl : lv_has ls 2 [(0, .ref (c 105)), (1, .int p0)] := hl
  have z_0 : (0 : Int32).toInt = 0 := by decide
  have z_1 : (1 : Int32).toInt = 1 := by decide
  have hin_X6 : ∀ w ∈ u_ws RX6 TX6 12, w ∈ wsX6_isNext := by decide +kernel
  refine lv_aload_n hx hb dX6_isNext_0 rfl (lv_at hl 0 rfl) ?_
  refine va_get (D := (dC, dI)) (ci := 8) (v := .ref (c 104)) (C := RX6) (T := TX6) (N := 12) hx hb hts hin_X6 hown hK hP 5 rfl rfl 0 (by decide) (hts (.fieldLink RX6 9 "BlockLog$Story" "rows" "LBlockLog$Rows;") (by decide +kernel)) (fun _ h9 => h9) rfl dX6_isNext_1 ?_
  refine lv_iload_n hx hb dX6_isNext_4 rfl (lv_at hl 1 rfl) ?_
  refine vp_callSi (va_Run.run (va_runV (As := [.int p0]) (rest := []) ⟨hx, hb, hml, hown, hts⟩ (v_X4_a l dC dI c kc st lg ai al R p0 (show 0 ≤ (st 15).toInt by omega) (show (st 15).toInt ≤ 1 by omega) (by omega) (by omega)) (cwV 1 hts gX6_isNext_X4_a rfl rfl rfl (by decide +kernel) ⟨Nat.le_of_ble_eq_true rfl, Nat.le_of_ble_eq_true rfl⟩) ⟨fun a U g mk q => by obtain ⟨q0, qP, qK, qG⟩ := q; exact ⟨q0, qP, va_K.moved (u := U) (U := U.calling g mk a) (Vm.Alike.refl U.vm) qK, qG.same rfl⟩, va_recv hK hP (ci := 6) (q := (RX4, TX4, 6)) rfl (q0 := 4) rfl, fun U hU hW => ⟨rfl, by rw [hU]; exact hP, va_K.moved hW.alike hK, hGW.warm hW⟩⟩ rfl rfl hl.1 rfl (lv_room (Nat.le_of_ble_eq_true rfl)) dX6_isNext_5 ⟨Nat.le_of_ble_eq_true rfl, Nat.le_of_ble_eq_true rfl⟩)) (fun r_1 er_1 => ?_)
  refine lv_aload_n hx hb dX6_isNext_8 rfl (lv_at hl 0 rfl) ?_
  refine vp_callSi (va_Run.run (va_runV (As := []) (rest := [.int r_1]) ⟨hx, hb, hml, hown, hts⟩ (v_X6_lastVersion l dC dI c kc st lg ai al R  (show 0 ≤ (st 26).toInt by omega) (show (st 26).toInt ≤ 128 by omega)) (cwV 0 hts gX6_isNext_X6_lastVersion rfl rfl rfl (by decide +kernel) ⟨Nat.le_of_ble_eq_true rfl, Nat.le_of_ble_eq_true rfl⟩) ⟨fun a U g mk q => by obtain ⟨q0, qP, qK⟩ := q; exact ⟨q0, qP, va_K.moved (u := U) (U := U.calling g mk a) (Vm.Alike.refl U.vm) qK⟩, va_recv hK hP (ci := 8) (q := (RX6, TX6, 12)) rfl (q0 := 5) rfl, fun U hU hW => ⟨rfl, by rw [hU]; exact hP, va_K.moved hW.alike hK⟩⟩ rfl rfl hl.1 rfl (lv_room (Nat.le_of_ble_eq_true rfl)) dX6_isNext_9 ⟨Nat.le_of_ble_eq_true rfl, Nat.le_of_ble_eq_true rfl⟩)) (fun r_2 er_2 => ?_)
  refine lv_iconst (v := 1) hx hb dX6_isNext_12 (by decide) ?_
  refine lv_iadd hx hb dX6_isNext_13 ?_
  refine lv_topi (fun v_3 ev_3 => ?_)
  clear ev_3
  refine lv_icmp_ne (tgt := 41) hx hb dX6_isNext_14 (by decide) (fun c_4 => ?_) (fun c_4 => ?_)
  · skip
    have ic_4 := iv_ne c_4
    refine lv_iconst (v := 0) hx hb dX6_isNext_41 (by decide) ?_
    exact W.zret hx hb hr rfl (fun t ht hW => ⟨_, rfl, ⟨(by omega), (by omega)⟩, ht⟩) (fun q h => by cases h) dX6_isNext_42
  · skip
    have ic_4 := iv_eq c_4
    refine lv_aload_n hx hb dX6_isNext_17 rfl (lv_at hl 0 rfl) ?_
    refine va_get (D := (dC, dI)) (ci := 8) (v := .ref (c 104)) (C := RX6) (T := TX6) (N := 12) hx hb hts hin_X6 hown hK hP 5 rfl rfl 0 (by decide) (hts (.fieldLink RX6 9 "BlockLog$Story" "rows" "LBlockLog$Rows;") (by decide +kernel)) (fun _ h9 => h9) rfl dX6_isNext_18 ?_
    refine lv_iload_n hx hb dX6_isNext_21 rfl (lv_at hl 1 rfl) ?_
    refine vp_callSl (va_Run.run (va_runV (As := [.int p0]) (rest := []) ⟨hx, hb, hml, hown, hts⟩ (v_X4_c l dC dI c kc st lg ai al R p0 (show 0 ≤ (st 15).toInt by omega) (show (st 15).toInt ≤ 1 by omega) (by omega) (by omega)) (cwV 1 hts gX6_isNext_X4_c rfl rfl rfl (by decide +kernel) ⟨Nat.le_of_ble_eq_true rfl, Nat.le_of_ble_eq_true rfl⟩) ⟨fun a U g mk q => by obtain ⟨q0, qP, qK, qG⟩ := q; exact ⟨q0, qP, va_K.moved (u := U) (U := U.calling g mk a) (Vm.Alike.refl U.vm) qK, qG.same rfl⟩, va_recv hK hP (ci := 6) (q := (RX4, TX4, 6)) rfl (q0 := 4) rfl, fun U hU hW => ⟨rfl, by rw [hU]; exact hP, va_K.moved hW.alike hK, hGW.warm hW⟩⟩ rfl rfl hl.1 rfl (lv_room (Nat.le_of_ble_eq_true rfl)) dX6_isNext_22 ⟨Nat.le_of_ble_eq_true rfl, Nat.le_of_ble_eq_true rfl⟩)) (fun r_5 er_5 => ?_)
    refine lv_aload_n hx hb dX6_isNext_25 rfl (lv_at hl 0 rfl) ?_
    refine lv_aload_n hx hb dX6_isNext_26 rfl (lv_at hl 0 rfl) ?_
    refine vp_callSi (va_Run.run (va_runV (As := []) (rest := [.ref (c 105), .long r_5]) ⟨hx, hb, hml, hown, hts⟩ (v_X6_lastVersion l dC dI c kc st lg ai al R  (show 0 ≤ (st 26).toInt by omega) (show (st 26).toInt ≤ 128 by omega)) (cwV 0 hts gX6_isNext_X6_lastVersion rfl rfl rfl (by decide +kernel) ⟨Nat.le_of_ble_eq_true rfl, Nat.le_of_ble_eq_true rfl⟩) ⟨fun a U g mk q => by obtain ⟨q0, qP, qK⟩ := q; exact ⟨q0, qP, va_K.moved (u := U) (U := U.calling g mk a) (Vm.Alike.refl U.vm) qK⟩, va_recv hK hP (ci := 8) (q := (RX6, TX6, 12)) rfl (q0 := 5) rfl, fun U hU hW => ⟨rfl, by rw [hU]; exact hP, va_K.moved hW.alike hK⟩⟩ rfl rfl hl.1 rfl (lv_room (Nat.le_of_ble_eq_true rfl)) dX6_isNext_27 ⟨Nat.le_of_ble_eq_true rfl, Nat.le_of_ble_eq_true rfl⟩)) (fun r_6 er_6 => ?_)
    refine vp_callSl (va_Run.run (va_runV (As := [.int r_6]) (rest := [.long r_5]) ⟨hx, hb, hml, hown, hts⟩ (v_X6_blockOf l dC dI c kc st lg ai al R r_6 (show 0 ≤ (st 26).toInt by omega) (show (st 26).toInt ≤ 128 by omega) (show 0 ≤ (st 28).toInt by omega) (show (st 28).toInt ≤ 1 by omega) (show aR (ai 23) 128 (0) 127 from hR23)) (cwV 1 hts gX6_isNext_X6_blockOf rfl rfl rfl (by decide +kernel) ⟨Nat.le_of_ble_eq_true rfl, Nat.le_of_ble_eq_true rfl⟩) ⟨fun a U g mk q => by obtain ⟨q0, qP, qK⟩ := q; exact ⟨q0, qP, va_K.moved (u := U) (U := U.calling g mk a) (Vm.Alike.refl U.vm) qK⟩, va_recv hK hP (ci := 8) (q := (RX6, TX6, 12)) rfl (q0 := 5) rfl, fun U hU hW => ⟨rfl, by rw [hU]; exact hP, va_K.moved hW.alike hK⟩⟩ rfl rfl hl.1 rfl (lv_room (Nat.le_of_ble_eq_true rfl)) dX6_isNext_30 ⟨Nat.le_of_ble_eq_true rfl, Nat.le_of_ble_eq_true rfl⟩)) (fun r_7 er_7 => ?_)
    refine W.lcmp hx hb dX6_isNext_33 ?_
    refine lv_topi (fun v_8 ev_8 => ?_)
    clear ev_8
    refine lv_if_ne (tgt := 41) hx hb dX6_isNext_34 (by decide) (fun c_9 => ?_) (fun c_9 => ?_)
    · skip
      have ic_9 := iv_ne c_9
      refine lv_iconst (v := 0) hx hb dX6_isNext_41 (by decide) ?_
      exact W.zret hx hb hr rfl (fun t ht hW => ⟨_, rfl, ⟨(by omega), (by omega)⟩, ht⟩) (fun q h => by cases h) dX6_isNext_42
    · skip
      have ic_9 := iv_eq c_9
      refine lv_iconst (v := 1) hx hb dX6_isNext_37 (by decide) ?_
      refine lv_goto (tgt := 42) hx hb dX6_isNext_38 (by decide) ?_
      exact W.zret hx hb hr rfl (fun t ht hW => ⟨_, rfl, ⟨(by omega), (by omega)⟩, ht⟩) (fun q h => by cases h) dX6_isNext_42

set_option maxHeartbeats 4000000 in
set_option maxRecDepth 100000 in
theorem v_X6_isCertified (l : Launch) (dC : Nat → ClassId) (dI : Nat → Nat → Nat) (c : Nat → Nat) (kc : Nat → ClassId) (st : Nat → Int32) (lg : Nat → Int64) (ai : Nat → Nat → Int32) (al : Nat → Nat → Int64) (R : va_W) (p0 : Int32) (hf26a : 0 ≤ (st 26).toInt) (hf26b : (st 26).toInt ≤ 128) (hR23 : aR (ai 23) 128 (0) 127) : Met l yX6_isCertified wsX6_isCertified ({ frames := 0, cells := 0, slots := 0, locals := 0 }) (va_Pc [.ref (c 105), .int p0] (fun U => va_P (dC, dI) vwCl (cw_W c kc st lg ai al R) U.heap ∧ va_K (dC, dI) vwCl (cw_T kc) U)) (vp_Si (fun r => (0 ≤ r.toInt) ∧ (r.toInt ≤ 1))) 0 0 (fun _ => False) := by
  refine Met.ofW (cc := cX6_isCertified) (maxL := 3) (ret := (some .boolean)) (by decide) rfl ?_
  intro p e s m args below meth cM s₁ B hml hv
  obtain ⟨rfl, hP, hK⟩ := hv
  have hx := B.exec
  have hb := B.bytes
  have hr := B.returns
  have hts := atoms_spec (ws := wsX6_isCertified) B.pre
  have hown : s.vm.findClass RX6 = some m.cls := findClass_of_methodNamed B.named
  have hl := lv_entry ([.ref (c 105), .int p0]) (n := 3) (Nat.le_of_ble_eq_true rfl)
  rw [lg_entry_eq]
  generalize (lg_sl ([.ref (c 105), .int p0]) ++ List.replicate (3 - (lg_sl ([.ref (c 105), .int p0])).length) Slot.unset).toArray = ls at hl ⊢
  have hl : lv_has ls 3 [(0, .ref (c 105)), (1, .int p0)] := hl
  have z_0 : (0 : Int32).toInt = 0 := by decide
  have z_1 : (1 : Int32).toInt = 1 := by decide
  have hin_X6 : ∀ w ∈ u_ws RX6 TX6 12, w ∈ wsX6_isCertified := by decide +kernel
  refine lv_iconst (v := 0) hx hb dX6_isCertified_0 (by decide) ?_
  refine lv_istore_n (lv' := [(2, .int (0 : Int32)), (0, .ref (c 105)), (1, .int p0)]) hx hb dX6_isCertified_1 rfl hl (by decide) rfl (fun ls hl => ?_)
  have loop2 : ∀ (n : Nat) (l2_2 : Int32) (ls : Array Slot), (0 ≤ l2_2.toInt) → (l2_2.toInt ≤ (st 26).toInt) → ((st 26).toInt - l2_2.toInt : Int).toNat < n → lv_has ls 3 [(2, .int l2_2), (0, .ref (c 105)), (1, .int p0)] → W p l e (headSpec wsX6_isCertified ({ frames := 0, cells := 0, slots := 0, locals := 0 })).room s m ([.ref (c 105), .int p0] : List Value).toArray below meth cM s.heap [] 0 0 (MQ below (vp_Si (fun r => (0 ≤ r.toInt) ∧ (r.toInt ≤ 1))) ([.ref (c 105), .int p0] : List Value).toArray s 0 0 (fun _ => False)) (F0 m 2 ls []) := by
    intro n
    induction n with
    | zero => intro l2_2 ls if0_2 if1_2 hm; exact absurd hm (Nat.not_lt_zero _)
    | succ n ih2 =>
      intro l2_2 ls if0_2 if1_2 hm2 hl
      refine lv_iload_n hx hb dX6_isCertified_2 rfl (lv_at hl 0 rfl) ?_
      refine lv_aload_n hx hb dX6_isCertified_3 rfl (lv_at hl 1 rfl) ?_
      refine va_get (D := (dC, dI)) (ci := 8) (v := .int (st 26)) (C := RX6) (T := TX6) (N := 12) hx hb hts hin_X6 hown hK hP 5 rfl rfl 8 (by decide) (hts (.fieldLink RX6 40 "BlockLog$Story" "certified" "I") (by decide +kernel)) (fun _ h9 => h9) rfl dX6_isCertified_4 ?_
      refine lv_icmp_ge (tgt := 28) hx hb dX6_isCertified_7 (by decide) (fun c_1 => ?_) (fun c_1 => ?_)
      · skip
        have ic_1 := iv_le c_1
        refine lv_iconst (v := 0) hx hb dX6_isCertified_28 (by decide) ?_
        exact W.zret hx hb hr rfl (fun t ht hW => ⟨_, rfl, ⟨(by omega), (by omega)⟩, ht⟩) (fun q h => by cases h) dX6_isCertified_29
      · skip
        have ic_1 := iv_nle c_1
        refine lv_aload_n hx hb dX6_isCertified_10 rfl (lv_at hl 1 rfl) ?_
        refine va_get (D := (dC, dI)) (ci := 8) (v := .ref (c 23)) (C := RX6) (T := TX6) (N := 12) hx hb hts hin_X6 hown hK hP 5 rfl rfl 5 (by decide) (hts (.fieldLink RX6 29 "BlockLog$Story" "chain" "[I") (by decide +kernel)) (fun _ h9 => h9) rfl dX6_isCertified_11 ?_
        refine lv_iload_n hx hb dX6_isCertified_14 rfl (lv_at hl 0 rfl) ?_
        refine va_iald (f := ai 23) hx hb hK hP 19 11 rfl rfl (iv_in (i := l2_2) (by omega) (by omega)) dX6_isCertified_15 ?_
        refine lv_topi (fun v_2 ev_2 => ?_)
        have k_3 : 0 ≤ v_2.toInt ∧ v_2.toInt ≤ 127 := aR_get hR23 (by omega) (by omega) ev_2
        clear ev_2
        refine lv_iload_n hx hb dX6_isCertified_16 rfl (lv_at hl 2 rfl) ?_
        refine lv_icmp_ne (tgt := 22) hx hb dX6_isCertified_17 (by decide) (fun c_4 => ?_) (fun c_4 => ?_)
        · skip
          have ic_4 := iv_ne c_4
          obtain ⟨x_5, ex_5⟩ : ∃ z : Int32, z = l2_2 + (1) := ⟨_, rfl⟩
          refine lv_iinc (v := x_5) (lv' := [(2, .int x_5), (0, .ref (c 105)), (1, .int p0)]) hx hb dX6_isCertified_22 hl (k := 0) rfl (by rw [ex_5]; rfl) (by decide) rfl (fun ls hl => ?_)
          have rg1 := iv_rng l2_2
          have hx_5 : x_5.toInt = l2_2.toInt + (1) := by rw [ex_5]; exact (iv_add (by omega) (by omega)).trans (by omega)
          clear ex_5
          refine lv_goto (tgt := 2) hx hb dX6_isCertified_25 (by decide) ?_
          exact ih2 x_5 _ (by omega) (by omega) (by omega) (lv_sub hl [0, 1, 2] rfl)
        · skip
          have ic_4 := iv_eq c_4
          refine lv_iconst (v := 1) hx hb dX6_isCertified_20 (by decide) ?_
          exact W.zret hx hb hr rfl (fun t ht hW => ⟨_, rfl, ⟨(by omega), (by omega)⟩, ht⟩) (fun q h => by cases h) dX6_isCertified_21
  exact loop2 (((st 26).toInt - 0 : Int).toNat + 1) (0 : Int32) _ (by omega) (by omega) (by omega) (lv_sub hl [0, 1, 2] rfl)

set_option maxHeartbeats 4000000 in
set_option maxRecDepth 100000 in
theorem v_X6_hearBase (l : Launch) (dC : Nat → ClassId) (dI : Nat → Nat → Nat) (c : Nat → Nat) (kc : Nat → ClassId) (st : Nat → Int32) (lg : Nat → Int64) (ai : Nat → Nat → Int32) (al : Nat → Nat → Int64) (R : va_W) (p0 : Int32) (sz : Nat) (hf15a : 0 ≤ (st 15).toInt) (hf15b : (st 15).toInt ≤ 1) (hf25a : 0 ≤ (st 25).toInt) (hf25b : (st 25).toInt ≤ 128) (hf28a : 0 ≤ (st 28).toInt) (hf28b : (st 28).toInt ≤ 1) (hq0 : 0 ≤ p0.toInt) (hq1 : p0.toInt ≤ 127) (hR7 : aR (ai 7) 8224 (-128) 127) : Met l yX6_hearBase wsX6_hearBase ({ frames := 3, cells := 0, slots := 0, locals := 68 }) (va_Pc [.ref (c 105), .int p0] (fun U => U.heap.size = sz ∧ va_P (dC, dI) vwCl (cw_W c kc st lg ai al R) U.heap ∧ va_K (dC, dI) vwCl (cw_T kc) U ∧ va_D (fun _ => True) (cw_W c kc st lg ai al R) ∧ gx_E (va_A (cw_W c kc st lg ai al R) sz) U)) (va_Qv (fun (_ : Unit) => True) (fun _ t => ∃ (x28 : Int32) (x29 : Int32) (g19 : Nat → Int64), (0 ≤ x28.toInt) ∧ (x28.toInt ≤ 1) ∧ va_P (dC, dI) vwCl (cw_W c kc (rU (rU st 28 x28) 29 x29) lg ai (rU al 19 g19) R) t.heap) (va_A (cw_W c kc st lg ai al R) sz)) 0 0 (va_A (cw_W c kc st lg ai al R) sz) := by
  refine Met.ofW (cc := cX6_hearBase) (maxL := 2) (ret := none) (by decide) rfl ?_
  intro p e s m args below meth cM s₁ B hml hv
  obtain ⟨rfl, hsz, hP, hK, hD0, hG⟩ := hv
  have hx := B.exec
  have hb := B.bytes
  have hr := B.returns
  have hts := atoms_spec (ws := wsX6_hearBase) B.pre
  have hown : s.vm.findClass RX6 = some m.cls := findClass_of_methodNamed B.named
  have hGW := hG.1
  subst hsz
  have hD := hD0.self (sz := s.heap.size)
  generalize hAe : va_A (cw_W c kc st lg ai al R) s.heap.size = A at hD hG ⊢
  have hA : ∀ q : Nat, s.heap.size ≤ q → A q := fun q h => by rw [← hAe]; exact Or.inr h
  have hS : va_S A s.heap s.heap [] := va_S.rf
  clear hAe hD0
  have hl := lv_entry ([.ref (c 105), .int p0]) (n := 2) (Nat.le_of_ble_eq_true rfl)
  rw [lg_entry_eq]
  generalize (lg_sl ([.ref (c 105), .int p0]) ++ List.replicate (2 - (lg_sl ([.ref (c 105), .int p0])).length) Slot.unset).toArray = ls at hl ⊢
  have hl : lv_has ls 2 [(0, .ref (c 105)), (1, .int p0)] := hl
  have z_0 : (0 : Int32).toInt = 0 := by decide
  have z_1 : (1 : Int32).toInt = 1 := by decide
  have hin_X6 : ∀ w ∈ u_ws RX6 TX6 12, w ∈ wsX6_hearBase := by decide +kernel
  have main : ∀ (H : Heap) (locs : List Loc), va_P (dC, dI) vwCl (cw_W c kc st lg ai al R) H → va_S A s.heap H locs → W p l e (headSpec wsX6_hearBase ({ frames := 3, cells := 0, slots := 0, locals := 68 })).room s m ([.ref (c 105), .int p0] : List Value).toArray below meth cM H locs 0 0 (MQ below (va_Qv (fun (_ : Unit) => True) (fun _ t => ∃ (x28 : Int32) (x29 : Int32) (g19 : Nat → Int64), (0 ≤ x28.toInt) ∧ (x28.toInt ≤ 1) ∧ va_P (dC, dI) vwCl (cw_W c kc (rU (rU st 28 x28) 29 x29) lg ai (rU al 19 g19) R) t.heap) A) ([.ref (c 105), .int p0] : List Value).toArray s 0 0 A) (F0 m 0 ls []) := by
    intro H locs hP hS
    refine lv_iload_n hx hb dX6_hearBase_0 rfl (lv_at hl 1 rfl) ?_
    refine lv_if_ne (tgt := 56) hx hb dX6_hearBase_1 (by decide) (fun c_1 => ?_) (fun c_1 => ?_)
    · skip
      have ic_1 := iv_ne c_1
      exact W.vret hx hb hr (fun t ht hW => ⟨⟨(), rfl, trivial, st 28, st 29, al 19, (by omega), (by omega), by rw [ht]; exact hP⟩, hS.F ht⟩) hS.2.2 dX6_hearBase_56
    · skip
      have ic_1 := iv_eq c_1
      refine lv_aload_n hx hb dX6_hearBase_4 rfl (lv_at hl 0 rfl) ?_
      refine lv_iload_n hx hb dX6_hearBase_5 rfl (lv_at hl 1 rfl) ?_
      refine vp_callSi (va_Run.run (va_runV (As := [.int p0]) (rest := []) ⟨hx, hb, hml, hown, hts⟩ (v_X6_isWhole l dC dI c kc st lg ai al R p0 (show 0 ≤ (st 15).toInt by omega) (show (st 15).toInt ≤ 1 by omega) (show 0 ≤ (st 25).toInt by omega) (show (st 25).toInt ≤ 128 by omega) (by omega) (by omega) (show aR (ai 7) 8224 (-128) 127 from hR7)) (cwV 1 hts gX6_hearBase_X6_isWhole rfl rfl rfl (by decide +kernel) ⟨Nat.le_of_ble_eq_true rfl, Nat.le_of_ble_eq_true rfl⟩) ⟨fun a U g mk q => by obtain ⟨q0, qP, qK, qG⟩ := q; exact ⟨q0, qP, va_K.moved (u := U) (U := U.calling g mk a) (Vm.Alike.refl U.vm) qK, qG.same rfl⟩, va_recv hK hP (ci := 8) (q := (RX6, TX6, 12)) rfl (q0 := 5) rfl, fun U hU hW => ⟨rfl, by rw [hU]; exact hP, va_K.moved hW.alike hK, hGW.warm hW⟩⟩ rfl rfl hl.1 rfl (lv_room (Nat.le_of_ble_eq_true rfl)) dX6_hearBase_6 ⟨Nat.le_of_ble_eq_true rfl, Nat.le_of_ble_eq_true rfl⟩)) (fun r_2 er_2 => ?_)
      obtain ⟨k_3, k_4, k_5⟩ := er_2
      have k_3 : (r_2.toInt = 1 → ((0 ≤ (cB (ai 7) (st 15) p0).toInt ∧ (cB (ai 7) (st 15) p0).toInt ≤ 16) ∧ p0.toInt + (cB (ai 7) (st 15) p0).toInt < (st 25).toInt)) := k_3
      rcases iv_01 (a := r_2) (by omega) (by omega) with b_6 | b_6
      · skip
        have ib_6 := iv_eq b_6
        rw [b_6]
        refine lv_if_eq (tgt := 56) hx hb dX6_hearBase_9 (by decide) (fun c_7 => ?_) (fun c_7 => ?_)
        · skip
          have ic_7 := iv_eq c_7
          exact W.vret hx hb hr (fun t ht hW => ⟨⟨(), rfl, trivial, st 28, st 29, al 19, (by omega), (by omega), by rw [ht]; exact hP⟩, hS.F ht⟩) hS.2.2 dX6_hearBase_56
        · skip
          have ic_7 := iv_ne c_7
          exfalso
          omega
      · skip
        have ib_6 := iv_eq b_6
        rw [b_6]
        refine lv_if_eq (tgt := 56) hx hb dX6_hearBase_9 (by decide) (fun c_8 => ?_) (fun c_8 => ?_)
        · skip
          have ic_8 := iv_eq c_8
          exfalso
          omega
        · skip
          have ic_8 := iv_ne c_8
          refine lv_aload_n hx hb dX6_hearBase_12 rfl (lv_at hl 0 rfl) ?_
          refine va_get (D := (dC, dI)) (ci := 8) (v := .ref (c 104)) (C := RX6) (T := TX6) (N := 12) hx hb hts hin_X6 hown hK hP 5 rfl rfl 0 (by decide) (hts (.fieldLink RX6 9 "BlockLog$Story" "rows" "LBlockLog$Rows;") (by decide +kernel)) (fun _ h9 => h9) rfl dX6_hearBase_13 ?_
          refine lv_iload_n hx hb dX6_hearBase_16 rfl (lv_at hl 1 rfl) ?_
          refine vp_callSl (va_Run.run (va_runV (As := [.int p0]) (rest := []) ⟨hx, hb, hml, hown, hts⟩ (v_X4_c l dC dI c kc st lg ai al R p0 (show 0 ≤ (st 15).toInt by omega) (show (st 15).toInt ≤ 1 by omega) (by omega) (by omega)) (cwV 1 hts gX6_hearBase_X4_c rfl rfl rfl (by decide +kernel) ⟨Nat.le_of_ble_eq_true rfl, Nat.le_of_ble_eq_true rfl⟩) ⟨fun a U g mk q => by obtain ⟨q0, qP, qK, qG⟩ := q; exact ⟨q0, qP, va_K.moved (u := U) (U := U.calling g mk a) (Vm.Alike.refl U.vm) qK, qG.same rfl⟩, va_recv hK hP (ci := 6) (q := (RX4, TX4, 6)) rfl (q0 := 4) rfl, fun U hU hW => ⟨rfl, by rw [hU]; exact hP, va_K.moved hW.alike hK, hGW.warm hW⟩⟩ rfl rfl hl.1 rfl (lv_room (Nat.le_of_ble_eq_true rfl)) dX6_hearBase_17 ⟨Nat.le_of_ble_eq_true rfl, Nat.le_of_ble_eq_true rfl⟩)) (fun r_9 er_9 => ?_)
          refine lv_lconst (v := 0) hx hb dX6_hearBase_20 (by decide) ?_
          refine W.lcmp hx hb dX6_hearBase_21 ?_
          refine lv_topi (fun v_10 ev_10 => ?_)
          clear ev_10
          refine lv_if_eq (tgt := 56) hx hb dX6_hearBase_22 (by decide) (fun c_11 => ?_) (fun c_11 => ?_)
          · skip
            have ic_11 := iv_eq c_11
            exact W.vret hx hb hr (fun t ht hW => ⟨⟨(), rfl, trivial, st 28, st 29, al 19, (by omega), (by omega), by rw [ht]; exact hP⟩, hS.F ht⟩) hS.2.2 dX6_hearBase_56
          · skip
            have ic_11 := iv_ne c_11
            refine lv_aload_n hx hb dX6_hearBase_25 rfl (lv_at hl 0 rfl) ?_
            refine va_get (D := (dC, dI)) (ci := 8) (v := .ref (c 19)) (C := RX6) (T := TX6) (N := 12) hx hb hts hin_X6 hown hK hP 5 rfl rfl 1 (by decide) (hts (.fieldLink RX6 15 "BlockLog$Story" "digests" "[J") (by decide +kernel)) (fun _ h9 => h9) rfl dX6_hearBase_26 ?_
            refine lv_iload_n hx hb dX6_hearBase_29 rfl (lv_at hl 1 rfl) ?_
            refine lv_aload_n hx hb dX6_hearBase_30 rfl (lv_at hl 0 rfl) ?_
            refine va_get (D := (dC, dI)) (ci := 8) (v := .ref (c 104)) (C := RX6) (T := TX6) (N := 12) hx hb hts hin_X6 hown hK hP 5 rfl rfl 0 (by decide) (hts (.fieldLink RX6 9 "BlockLog$Story" "rows" "LBlockLog$Rows;") (by decide +kernel)) (fun _ h9 => h9) rfl dX6_hearBase_31 ?_
            refine lv_iload_n hx hb dX6_hearBase_34 rfl (lv_at hl 1 rfl) ?_
            refine vp_callSl (va_Run.run (va_runV (As := [.int p0]) (rest := [.int p0, .ref (c 19)]) ⟨hx, hb, hml, hown, hts⟩ (v_X4_c l dC dI c kc st lg ai al R p0 (show 0 ≤ (st 15).toInt by omega) (show (st 15).toInt ≤ 1 by omega) (by omega) (by omega)) (cwV 1 hts gX6_hearBase_X4_c rfl rfl rfl (by decide +kernel) ⟨Nat.le_of_ble_eq_true rfl, Nat.le_of_ble_eq_true rfl⟩) ⟨fun a U g mk q => by obtain ⟨q0, qP, qK, qG⟩ := q; exact ⟨q0, qP, va_K.moved (u := U) (U := U.calling g mk a) (Vm.Alike.refl U.vm) qK, qG.same rfl⟩, va_recv hK hP (ci := 6) (q := (RX4, TX4, 6)) rfl (q0 := 4) rfl, fun U hU hW => ⟨rfl, by rw [hU]; exact hP, va_K.moved hW.alike hK, hGW.warm hW⟩⟩ rfl rfl hl.1 rfl (lv_room (Nat.le_of_ble_eq_true rfl)) dX6_hearBase_35 ⟨Nat.le_of_ble_eq_true rfl, Nat.le_of_ble_eq_true rfl⟩)) (fun r_12 er_12 => ?_)
            refine va_last (f := al 19) hx hb hK hP (cw_D hD) hS 15 7 rfl rfl (iv_in (i := p0) (by omega) (by omega)) dX6_hearBase_38 (fun H locs hP _ hS => ?_)
            have hP : va_P (dC, dI) vwCl (cw_W c kc st lg ai (rU al 19 (vp_updL (al 19) p0.toNatClampNeg r_12)) R) H := cw_a19 hP
            generalize hU_story_digests : vp_updL (al 19) p0.toNatClampNeg r_12 = g_13 at hP
            clear hU_story_digests
            refine lv_aload_n hx hb dX6_hearBase_39 rfl (lv_at hl 0 rfl) ?_
            refine lv_iconst (v := 1) hx hb dX6_hearBase_40 (by decide) ?_
            refine va_put (D := (dC, dI)) (ci := 8) (v := .int (1 : Int32)) (ty := .boolean) (C := RX6) (T := TX6) (N := 12) hx hb hts hin_X6 tyX6 tyX6_ok nmX6 hown hK hP (cw_D hD) hS 5 rfl rfl 10 (by decide) (hts (.fieldLink RX6 46 "BlockLog$Story" "based" "Z") (by decide +kernel)) (fun _ h9 => h9) rfl (by decide +kernel) rfl rfl (Nat.le_of_ble_eq_true rfl) dX6_hearBase_41 (fun H locs hP _ hS => ?_)
            have hP : va_P (dC, dI) vwCl (cw_W c kc (rU st 28 (1 : Int32)) lg ai (rU al 19 g_13) R) H := hP
            refine lv_aload_n hx hb dX6_hearBase_44 rfl (lv_at hl 0 rfl) ?_
            refine lv_aload_n hx hb dX6_hearBase_45 rfl (lv_at hl 0 rfl) ?_
            refine va_get (D := (dC, dI)) (ci := 8) (v := .ref (c 104)) (C := RX6) (T := TX6) (N := 12) hx hb hts hin_X6 hown hK hP 5 rfl rfl 0 (by decide) (hts (.fieldLink RX6 9 "BlockLog$Story" "rows" "LBlockLog$Rows;") (by decide +kernel)) (fun _ h9 => h9) rfl dX6_hearBase_46 ?_
            refine lv_iload_n hx hb dX6_hearBase_49 rfl (lv_at hl 1 rfl) ?_
            refine vp_callSi (va_Run.run (va_runV (As := [.int p0]) (rest := [.ref (c 105)]) ⟨hx, hb, hml, hown, hts⟩ (v_X4_a l dC dI c kc (rU st 28 (1 : Int32)) lg ai (rU al 19 g_13) R p0 (show 0 ≤ (st 15).toInt by omega) (show (st 15).toInt ≤ 1 by omega) (by omega) (by omega)) (cwV 1 hts gX6_hearBase_X4_a rfl rfl rfl (by decide +kernel) ⟨Nat.le_of_ble_eq_true rfl, Nat.le_of_ble_eq_true rfl⟩) ⟨fun a U g mk q => by obtain ⟨q0, qP, qK, qG⟩ := q; exact ⟨q0, qP, va_K.moved (u := U) (U := U.calling g mk a) (Vm.Alike.refl U.vm) qK, qG.same rfl⟩, va_recv hK hP (ci := 6) (q := (RX4, TX4, 6)) rfl (q0 := 4) rfl, fun U hU hW => ⟨rfl, by rw [hU]; exact hP, va_K.moved hW.alike hK, hGW.warm hW⟩⟩ rfl rfl hl.1 rfl (lv_room (Nat.le_of_ble_eq_true rfl)) dX6_hearBase_50 ⟨Nat.le_of_ble_eq_true rfl, Nat.le_of_ble_eq_true rfl⟩)) (fun r_14 er_14 => ?_)
            refine va_put (D := (dC, dI)) (ci := 8) (v := .int r_14) (ty := .int) (C := RX6) (T := TX6) (N := 12) hx hb hts hin_X6 tyX6 tyX6_ok nmX6 hown hK hP (cw_D hD) hS 5 rfl rfl 11 (by decide) (hts (.fieldLink RX6 50 "BlockLog$Story" "baseHeight" "I") (by decide +kernel)) (fun _ h9 => h9) rfl (by decide +kernel) rfl rfl (Nat.le_of_ble_eq_true rfl) dX6_hearBase_53 (fun H locs hP _ hS => ?_)
            have hP : va_P (dC, dI) vwCl (cw_W c kc (rU (rU st 28 (1 : Int32)) 29 r_14) lg ai (rU al 19 g_13) R) H := hP
            exact W.vret hx hb hr (fun t ht hW => ⟨⟨(), rfl, trivial, (1 : Int32), r_14, g_13, (by omega), (by omega), by rw [ht]; exact hP⟩, hS.F ht⟩) hS.2.2 dX6_hearBase_56
  exact main s.heap [] hP hS

set_option maxHeartbeats 4000000 in
set_option maxRecDepth 100000 in
theorem v_X6_hearBlock (l : Launch) (dC : Nat → ClassId) (dI : Nat → Nat → Nat) (c : Nat → Nat) (kc : Nat → ClassId) (st : Nat → Int32) (lg : Nat → Int64) (ai : Nat → Nat → Int32) (al : Nat → Nat → Int64) (R : va_W) (p0 : Int32) (sz : Nat) (hf15a : 0 ≤ (st 15).toInt) (hf15b : (st 15).toInt ≤ 1) (hf25a : 0 ≤ (st 25).toInt) (hf25b : (st 25).toInt ≤ 128) (hf28a : 0 ≤ (st 28).toInt) (hf28b : (st 28).toInt ≤ 1) (hq0 : 0 ≤ p0.toInt) (hq1 : p0.toInt ≤ 127) (hR7 : aR (ai 7) 8224 (-128) 127) : Met l yX6_hearBlock wsX6_hearBlock ({ frames := 3, cells := 0, slots := 0, locals := 75 }) (va_Pc [.ref (c 105), .int p0] (fun U => U.heap.size = sz ∧ va_P (dC, dI) vwCl (cw_W c kc st lg ai al R) U.heap ∧ va_K (dC, dI) vwCl (cw_T kc) U ∧ va_D (fun _ => True) (cw_W c kc st lg ai al R) ∧ gx_E (va_A (cw_W c kc st lg ai al R) sz) U)) (va_Qv (fun (_ : Unit) => True) (fun _ t => ∃ (f20 : Nat → Int32) (f21 : Nat → Int32) (g19 : Nat → Int64), va_P (dC, dI) vwCl (cw_W c kc st lg (rU (rU ai 20 f20) 21 f21) (rU al 19 g19) R) t.heap) (va_A (cw_W c kc st lg ai al R) sz)) 0 0 (va_A (cw_W c kc st lg ai al R) sz) := by
  refine Met.ofW (cc := cX6_hearBlock) (maxL := 6) (ret := none) (by decide) rfl ?_
  intro p e s m args below meth cM s₁ B hml hv
  obtain ⟨rfl, hsz, hP, hK, hD0, hG⟩ := hv
  have hx := B.exec
  have hb := B.bytes
  have hr := B.returns
  have hts := atoms_spec (ws := wsX6_hearBlock) B.pre
  have hown : s.vm.findClass RX6 = some m.cls := findClass_of_methodNamed B.named
  have hGW := hG.1
  subst hsz
  have hD := hD0.self (sz := s.heap.size)
  generalize hAe : va_A (cw_W c kc st lg ai al R) s.heap.size = A at hD hG ⊢
  have hA : ∀ q : Nat, s.heap.size ≤ q → A q := fun q h => by rw [← hAe]; exact Or.inr h
  have hS : va_S A s.heap s.heap [] := va_S.rf
  clear hAe hD0
  have hl := lv_entry ([.ref (c 105), .int p0]) (n := 6) (Nat.le_of_ble_eq_true rfl)
  rw [lg_entry_eq]
  generalize (lg_sl ([.ref (c 105), .int p0]) ++ List.replicate (6 - (lg_sl ([.ref (c 105), .int p0])).length) Slot.unset).toArray = ls at hl ⊢
  have hl : lv_has ls 6 [(0, .ref (c 105)), (1, .int p0)] := hl
  have z_m1 : (-1 : Int32).toInt = -1 := by decide
  have z_0 : (0 : Int32).toInt = 0 := by decide
  have z_1 : (1 : Int32).toInt = 1 := by decide
  have hin_X6 : ∀ w ∈ u_ws RX6 TX6 12, w ∈ wsX6_hearBlock := by decide +kernel
  have main : ∀ (H : Heap) (locs : List Loc), va_P (dC, dI) vwCl (cw_W c kc st lg ai al R) H → va_S A s.heap H locs → W p l e (headSpec wsX6_hearBlock ({ frames := 3, cells := 0, slots := 0, locals := 75 })).room s m ([.ref (c 105), .int p0] : List Value).toArray below meth cM H locs 0 0 (MQ below (va_Qv (fun (_ : Unit) => True) (fun _ t => ∃ (f20 : Nat → Int32) (f21 : Nat → Int32) (g19 : Nat → Int64), va_P (dC, dI) vwCl (cw_W c kc st lg (rU (rU ai 20 f20) 21 f21) (rU al 19 g19) R) t.heap) A) ([.ref (c 105), .int p0] : List Value).toArray s 0 0 A) (F0 m 0 ls []) := by
    intro H locs hP hS
    refine lv_aload_n hx hb dX6_hearBlock_0 rfl (lv_at hl 0 rfl) ?_
    refine lv_iload_n hx hb dX6_hearBlock_1 rfl (lv_at hl 1 rfl) ?_
    refine vp_callSi (va_Run.run (va_runV (As := [.int p0]) (rest := []) ⟨hx, hb, hml, hown, hts⟩ (v_X6_isWhole l dC dI c kc st lg ai al R p0 (show 0 ≤ (st 15).toInt by omega) (show (st 15).toInt ≤ 1 by omega) (show 0 ≤ (st 25).toInt by omega) (show (st 25).toInt ≤ 128 by omega) (by omega) (by omega) (show aR (ai 7) 8224 (-128) 127 from hR7)) (cwV 1 hts gX6_hearBlock_X6_isWhole rfl rfl rfl (by decide +kernel) ⟨Nat.le_of_ble_eq_true rfl, Nat.le_of_ble_eq_true rfl⟩) ⟨fun a U g mk q => by obtain ⟨q0, qP, qK, qG⟩ := q; exact ⟨q0, qP, va_K.moved (u := U) (U := U.calling g mk a) (Vm.Alike.refl U.vm) qK, qG.same rfl⟩, va_recv hK hP (ci := 8) (q := (RX6, TX6, 12)) rfl (q0 := 5) rfl, fun U hU hW => ⟨rfl, by rw [hU]; exact hP, va_K.moved hW.alike hK, hGW.warm hW⟩⟩ rfl rfl hl.1 rfl (lv_room (Nat.le_of_ble_eq_true rfl)) dX6_hearBlock_2 ⟨Nat.le_of_ble_eq_true rfl, Nat.le_of_ble_eq_true rfl⟩)) (fun r_1 er_1 => ?_)
    obtain ⟨k_2, k_3, k_4⟩ := er_1
    have k_2 : (r_1.toInt = 1 → ((0 ≤ (cB (ai 7) (st 15) p0).toInt ∧ (cB (ai 7) (st 15) p0).toInt ≤ 16) ∧ p0.toInt + (cB (ai 7) (st 15) p0).toInt < (st 25).toInt)) := k_2
    rcases iv_01 (a := r_1) (by omega) (by omega) with b_5 | b_5
    · skip
      have ib_5 := iv_eq b_5
      rw [b_5]
      refine lv_if_eq (tgt := 16) hx hb dX6_hearBlock_5 (by decide) (fun c_6 => ?_) (fun c_6 => ?_)
      · skip
        have ic_6 := iv_eq c_6
        refine lv_lconst (v := 0) hx hb dX6_hearBlock_16 (by decide) ?_
        refine lv_lstore_n (lv' := [(2, .long (0 : Int64)), (0, .ref (c 105)), (1, .int p0)]) hx hb dX6_hearBlock_17 rfl hl (by decide) rfl (fun ls hl => ?_)
        refine lv_lload_n hx hb dX6_hearBlock_18 rfl (lv_at hl 0 rfl) ?_
        refine lv_lconst (v := 0) hx hb dX6_hearBlock_19 (by decide) ?_
        refine W.lcmp hx hb dX6_hearBlock_20 ?_
        rw [show lg_cmp (0 : Int64) (0 : Int64) = (0 : Int32) by decide]
        refine lv_if_ne (tgt := 25) hx hb dX6_hearBlock_21 (by decide) (fun c_7 => ?_) (fun c_7 => ?_)
        · skip
          have ic_7 := iv_ne c_7
          exfalso
          omega
        · skip
          have ic_7 := iv_eq c_7
          exact W.vret hx hb hr (fun t ht hW => ⟨⟨(), rfl, trivial, ai 20, ai 21, al 19, by rw [ht]; exact hP⟩, hS.F ht⟩) hS.2.2 dX6_hearBlock_24
      · skip
        have ic_6 := iv_ne c_6
        exfalso
        omega
    · skip
      have ib_5 := iv_eq b_5
      rw [b_5]
      refine lv_if_eq (tgt := 16) hx hb dX6_hearBlock_5 (by decide) (fun c_8 => ?_) (fun c_8 => ?_)
      · skip
        have ic_8 := iv_eq c_8
        exfalso
        omega
      · skip
        have ic_8 := iv_ne c_8
        refine lv_aload_n hx hb dX6_hearBlock_8 rfl (lv_at hl 0 rfl) ?_
        refine lv_iload_n hx hb dX6_hearBlock_9 rfl (lv_at hl 1 rfl) ?_
        refine vp_callSl (va_Run.run (va_runV (As := [.int p0]) (rest := []) ⟨hx, hb, hml, hown, hts⟩ (v_X6_sumOfBlock l dC dI c kc st lg ai al R p0 (show 0 ≤ (st 15).toInt by omega) (show (st 15).toInt ≤ 1 by omega) (show 0 ≤ (st 25).toInt by omega) (show (st 25).toInt ≤ 128 by omega) (by omega) (by omega) (show 0 ≤ (cB (ai 7) (st 15) p0).toInt by omega) (show (cB (ai 7) (st 15) p0).toInt ≤ 16 by omega) (show p0.toInt + (cB (ai 7) (st 15) p0).toInt < (st 25).toInt by omega)) (cwV 1 hts gX6_hearBlock_X6_sumOfBlock rfl rfl rfl (by decide +kernel) ⟨Nat.le_of_ble_eq_true rfl, Nat.le_of_ble_eq_true rfl⟩) ⟨fun a U g mk q => by obtain ⟨q0, qP, qK, qG⟩ := q; exact ⟨q0, qP, va_K.moved (u := U) (U := U.calling g mk a) (Vm.Alike.refl U.vm) qK, qG.same rfl⟩, va_recv hK hP (ci := 8) (q := (RX6, TX6, 12)) rfl (q0 := 5) rfl, fun U hU hW => ⟨rfl, by rw [hU]; exact hP, va_K.moved hW.alike hK, hGW.warm hW⟩⟩ rfl rfl hl.1 rfl (lv_room (Nat.le_of_ble_eq_true rfl)) dX6_hearBlock_10 ⟨Nat.le_of_ble_eq_true rfl, Nat.le_of_ble_eq_true rfl⟩)) (fun r_9 er_9 => ?_)
        refine lv_goto (tgt := 17) hx hb dX6_hearBlock_13 (by decide) ?_
        refine lv_lstore_n (lv' := [(2, .long r_9), (0, .ref (c 105)), (1, .int p0)]) hx hb dX6_hearBlock_17 rfl hl (by decide) rfl (fun ls hl => ?_)
        refine lv_lload_n hx hb dX6_hearBlock_18 rfl (lv_at hl 0 rfl) ?_
        refine lv_lconst (v := 0) hx hb dX6_hearBlock_19 (by decide) ?_
        refine W.lcmp hx hb dX6_hearBlock_20 ?_
        refine lv_topi (fun v_10 ev_10 => ?_)
        clear ev_10
        refine lv_if_ne (tgt := 25) hx hb dX6_hearBlock_21 (by decide) (fun c_11 => ?_) (fun c_11 => ?_)
        · skip
          have ic_11 := iv_ne c_11
          refine lv_aload_n hx hb dX6_hearBlock_25 rfl (lv_at hl 1 rfl) ?_
          refine va_get (D := (dC, dI)) (ci := 8) (v := .ref (c 20)) (C := RX6) (T := TX6) (N := 12) hx hb hts hin_X6 hown hK hP 5 rfl rfl 2 (by decide) (hts (.fieldLink RX6 19 "BlockLog$Story" "isBlock" "[Z") (by decide +kernel)) (fun _ h9 => h9) rfl dX6_hearBlock_26 ?_
          refine lv_iload_n hx hb dX6_hearBlock_29 rfl (lv_at hl 2 rfl) ?_
          refine lv_aload_n hx hb dX6_hearBlock_30 rfl (lv_at hl 1 rfl) ?_
          refine lv_lload_n hx hb dX6_hearBlock_31 rfl (lv_at hl 0 rfl) ?_
          refine vp_callSi (va_Run.run (va_runV (As := [.long r_9]) (rest := [.int p0, .ref (c 20)]) ⟨hx, hb, hml, hown, hts⟩ (v_X6_blockRow l dC dI c kc st lg ai al R r_9 (show 0 ≤ (st 25).toInt by omega) (show (st 25).toInt ≤ 128 by omega)) (cwV 1 hts gX6_hearBlock_X6_blockRow rfl rfl rfl (by decide +kernel) ⟨Nat.le_of_ble_eq_true rfl, Nat.le_of_ble_eq_true rfl⟩) ⟨fun a U g mk q => by obtain ⟨q0, qP, qK⟩ := q; exact ⟨q0, qP, va_K.moved (u := U) (U := U.calling g mk a) (Vm.Alike.refl U.vm) qK⟩, va_recv hK hP (ci := 8) (q := (RX6, TX6, 12)) rfl (q0 := 5) rfl, fun U hU hW => ⟨rfl, by rw [hU]; exact hP, va_K.moved hW.alike hK⟩⟩ rfl rfl hl.1 rfl (lv_room (Nat.le_of_ble_eq_true rfl)) dX6_hearBlock_32 ⟨Nat.le_of_ble_eq_true rfl, Nat.le_of_ble_eq_true rfl⟩)) (fun r_12 er_12 => ?_)
          obtain ⟨k_13, k_14⟩ := er_12
          have k_14 : r_12.toInt < (st 25).toInt := k_14
          refine lv_iconst (v := (-1)) hx hb dX6_hearBlock_35 (by decide) ?_
          refine lv_icmp_ne (tgt := 61) hx hb dX6_hearBlock_36 (by decide) (fun c_15 => ?_) (fun c_15 => ?_)
          · skip
            have ic_15 := iv_ne c_15
            refine lv_iconst (v := 0) hx hb dX6_hearBlock_61 (by decide) ?_
            refine va_zast (f := ai 20) hx hb hK hP (cw_D hD) hS 16 8 rfl rfl (iv_in (i := p0) (by omega) (by omega)) dX6_hearBlock_62 (fun H locs hP _ hS => ?_)
            have hP : va_P (dC, dI) vwCl (cw_W c kc st lg (rU ai 20 (upd (ai 20) p0.toNatClampNeg (vp_nar .boolean (0 : Int32)))) al R) H := cw_a20 hP
            generalize hU_story_isBlock : upd (ai 20) p0.toNatClampNeg (vp_nar .boolean (0 : Int32)) = g_16 at hP
            clear hU_story_isBlock
            refine lv_aload_n hx hb dX6_hearBlock_63 rfl (lv_at hl 1 rfl) ?_
            refine va_get (D := (dC, dI)) (ci := 8) (v := .ref (c 19)) (C := RX6) (T := TX6) (N := 12) hx hb hts hin_X6 hown hK hP 5 rfl rfl 1 (by decide) (hts (.fieldLink RX6 15 "BlockLog$Story" "digests" "[J") (by decide +kernel)) (fun _ h9 => h9) rfl dX6_hearBlock_64 ?_
            refine lv_iload_n hx hb dX6_hearBlock_67 rfl (lv_at hl 2 rfl) ?_
            refine lv_lload_n hx hb dX6_hearBlock_68 rfl (lv_at hl 0 rfl) ?_
            refine va_last (f := al 19) hx hb hK hP (cw_D hD) hS 15 7 rfl rfl (iv_in (i := p0) (by omega) (by omega)) dX6_hearBlock_69 (fun H locs hP _ hS => ?_)
            have hP : va_P (dC, dI) vwCl (cw_W c kc st lg (rU ai 20 g_16) (rU al 19 (vp_updL (al 19) p0.toNatClampNeg r_9)) R) H := cw_a19 hP
            generalize hU_story_digests : vp_updL (al 19) p0.toNatClampNeg r_9 = g_17 at hP
            clear hU_story_digests
            refine lv_iload_n hx hb dX6_hearBlock_70 rfl (lv_at hl 2 rfl) ?_
            refine lv_aload_n hx hb dX6_hearBlock_71 rfl (lv_at hl 1 rfl) ?_
            refine va_get (D := (dC, dI)) (ci := 8) (v := .ref (c 104)) (C := RX6) (T := TX6) (N := 12) hx hb hts hin_X6 hown hK hP 5 rfl rfl 0 (by decide) (hts (.fieldLink RX6 9 "BlockLog$Story" "rows" "LBlockLog$Rows;") (by decide +kernel)) (fun _ h9 => h9) rfl dX6_hearBlock_72 ?_
            refine lv_iload_n hx hb dX6_hearBlock_75 rfl (lv_at hl 2 rfl) ?_
            refine vp_callSi (va_Run.run (va_runV (As := [.int p0]) (rest := [.int p0]) ⟨hx, hb, hml, hown, hts⟩ (v_X4_b l dC dI c kc st lg (rU ai 20 g_16) (rU al 19 g_17) R p0 (show 0 ≤ (st 15).toInt by omega) (show (st 15).toInt ≤ 1 by omega) (by omega) (by omega)) (cwV 1 hts gX6_hearBlock_X4_b rfl rfl rfl (by decide +kernel) ⟨Nat.le_of_ble_eq_true rfl, Nat.le_of_ble_eq_true rfl⟩) ⟨fun a U g mk q => by obtain ⟨q0, qP, qK, qG⟩ := q; exact ⟨q0, qP, va_K.moved (u := U) (U := U.calling g mk a) (Vm.Alike.refl U.vm) qK, qG.same rfl⟩, va_recv hK hP (ci := 6) (q := (RX4, TX4, 6)) rfl (q0 := 4) rfl, fun U hU hW => ⟨rfl, by rw [hU]; exact hP, va_K.moved hW.alike hK, hGW.warm hW⟩⟩ rfl rfl hl.1 rfl (lv_room (Nat.le_of_ble_eq_true rfl)) dX6_hearBlock_76 ⟨Nat.le_of_ble_eq_true rfl, Nat.le_of_ble_eq_true rfl⟩)) (fun r_18 er_18 => ?_)
            have k_19 := er_18
            have k_19 : r_18.toInt = (cB (ai 7) (st 15) p0).toInt := k_19
            refine lv_iadd hx hb dX6_hearBlock_79 ?_
            refine lv_topi (fun v_20 ev_20 => ?_)
            have rg1 := iv_rng p0
            have rg2 := iv_rng r_18
            have hv_20 : v_20.toInt = p0.toInt + r_18.toInt := by rw [ev_20]; exact (iv_add (by omega) (by omega)).trans (by omega)
            clear ev_20
            refine lv_istore (lv' := [(4, .int v_20), (2, .long r_9), (0, .ref (c 105)), (1, .int p0)]) hx hb dX6_hearBlock_80 hl (by decide) rfl (fun ls hl => ?_)
            refine lv_iload_n hx hb dX6_hearBlock_82 rfl (lv_at hl 3 rfl) ?_
            refine lv_iconst (v := 1) hx hb dX6_hearBlock_83 (by decide) ?_
            refine lv_iadd hx hb dX6_hearBlock_84 ?_
            refine lv_topi (fun v_21 ev_21 => ?_)
            have hv_21 : v_21.toInt = p0.toInt + 1 := by rw [ev_21]; exact (iv_add (by omega) (by omega)).trans (by omega)
            clear ev_21
            refine lv_istore (lv' := [(5, .int v_21), (4, .int v_20), (2, .long r_9), (0, .ref (c 105)), (1, .int p0)]) hx hb dX6_hearBlock_85 hl (by decide) rfl (fun ls hl => ?_)
            have loop87 : ∀ (n : Nat) (l5_87 : Int32) (a21_87 : Nat → Int32) (H : Heap) (locs : List Loc) (ls : Array Slot), (p0.toInt + 1 ≤ l5_87.toInt) → (l5_87.toInt ≤ v_20.toInt + 1) → (v_20.toInt + 1 - l5_87.toInt : Int).toNat < n → va_P (dC, dI) vwCl (cw_W c kc st lg (rU (rU ai 20 g_16) 21 a21_87) (rU al 19 g_17) R) H → va_S A s.heap H locs → lv_has ls 6 [(5, .int l5_87), (4, .int v_20), (2, .long r_9), (0, .ref (c 105)), (1, .int p0)] → W p l e (headSpec wsX6_hearBlock ({ frames := 3, cells := 0, slots := 0, locals := 75 })).room s m ([.ref (c 105), .int p0] : List Value).toArray below meth cM H locs 0 0 (MQ below (va_Qv (fun (_ : Unit) => True) (fun _ t => ∃ (f20 : Nat → Int32) (f21 : Nat → Int32) (g19 : Nat → Int64), va_P (dC, dI) vwCl (cw_W c kc st lg (rU (rU ai 20 f20) 21 f21) (rU al 19 g19) R) t.heap) A) ([.ref (c 105), .int p0] : List Value).toArray s 0 0 A) (F0 m 87 ls []) := by
              intro n
              induction n with
              | zero => intro l5_87 a21_87 H locs ls if0_87 if1_87 hm; exact absurd hm (Nat.not_lt_zero _)
              | succ n ih87 =>
                intro l5_87 a21_87 H locs ls if0_87 if1_87 hm87 hP hS hl
                refine lv_iload hx hb dX6_hearBlock_87 (lv_at hl 0 rfl) ?_
                refine lv_iload hx hb dX6_hearBlock_89 (lv_at hl 1 rfl) ?_
                refine lv_icmp_gt (tgt := 108) hx hb dX6_hearBlock_91 (by decide) (fun c_22 => ?_) (fun c_22 => ?_)
                · skip
                  have ic_22 := iv_lt c_22
                  exact W.vret hx hb hr (fun t ht hW => ⟨⟨(), rfl, trivial, g_16, a21_87, g_17, by rw [ht]; exact hP⟩, hS.F ht⟩) hS.2.2 dX6_hearBlock_108
                · skip
                  have ic_22 := iv_nlt c_22
                  refine lv_aload_n hx hb dX6_hearBlock_94 rfl (lv_at hl 3 rfl) ?_
                  refine va_get (D := (dC, dI)) (ci := 8) (v := .ref (c 21)) (C := RX6) (T := TX6) (N := 12) hx hb hts hin_X6 hown hK hP 5 rfl rfl 3 (by decide) (hts (.fieldLink RX6 23 "BlockLog$Story" "inBlock" "[Z") (by decide +kernel)) (fun _ h9 => h9) rfl dX6_hearBlock_95 ?_
                  refine lv_iload hx hb dX6_hearBlock_98 (lv_at hl 0 rfl) ?_
                  refine lv_iconst (v := 1) hx hb dX6_hearBlock_100 (by decide) ?_
                  refine va_zast (f := a21_87) hx hb hK hP (cw_D hD) hS 17 9 rfl rfl (iv_in (i := l5_87) (by omega) (by omega)) dX6_hearBlock_101 (fun H locs hP _ hS => ?_)
                  have hP : va_P (dC, dI) vwCl (cw_W c kc st lg (rU (rU ai 20 g_16) 21 (upd a21_87 l5_87.toNatClampNeg (vp_nar .boolean (1 : Int32)))) (rU al 19 g_17) R) H := cw_b21 hP
                  generalize hU_story_inBlock : upd a21_87 l5_87.toNatClampNeg (vp_nar .boolean (1 : Int32)) = g_23 at hP
                  clear hU_story_inBlock
                  obtain ⟨x_24, ex_24⟩ : ∃ z : Int32, z = l5_87 + (1) := ⟨_, rfl⟩
                  refine lv_iinc (v := x_24) (lv' := [(5, .int x_24), (4, .int v_20), (2, .long r_9), (0, .ref (c 105)), (1, .int p0)]) hx hb dX6_hearBlock_102 hl (k := 0) rfl (by rw [ex_24]; rfl) (by decide) rfl (fun ls hl => ?_)
                  have rg3 := iv_rng l5_87
                  have hx_24 : x_24.toInt = l5_87.toInt + (1) := by rw [ex_24]; exact (iv_add (by omega) (by omega)).trans (by omega)
                  clear ex_24
                  refine lv_goto (tgt := 87) hx hb dX6_hearBlock_105 (by decide) ?_
                  exact ih87 x_24 g_23 _ _ _ (by omega) (by omega) (by omega) hP hS (lv_sub hl [0, 1, 2, 3, 4] rfl)
            exact loop87 ((v_20.toInt + 1 - v_21.toInt : Int).toNat + 1) v_21 (ai 21) _ _ _ (by omega) (by omega) (by omega) hP hS (lv_sub hl [0, 1, 2, 3, 4] rfl)
          · skip
            have ic_15 := iv_eq c_15
            refine lv_aload_n hx hb dX6_hearBlock_39 rfl (lv_at hl 1 rfl) ?_
            refine va_get (D := (dC, dI)) (ci := 8) (v := .int (st 28)) (C := RX6) (T := TX6) (N := 12) hx hb hts hin_X6 hown hK hP 5 rfl rfl 10 (by decide) (hts (.fieldLink RX6 46 "BlockLog$Story" "based" "Z") (by decide +kernel)) (fun _ h9 => h9) rfl dX6_hearBlock_40 ?_
            refine lv_if_eq (tgt := 57) hx hb dX6_hearBlock_43 (by decide) (fun c_25 => ?_) (fun c_25 => ?_)
            · skip
              have ic_25 := iv_eq c_25
              refine lv_iconst (v := 1) hx hb dX6_hearBlock_57 (by decide) ?_
              refine lv_goto (tgt := 62) hx hb dX6_hearBlock_58 (by decide) ?_
              refine va_zast (f := ai 20) hx hb hK hP (cw_D hD) hS 16 8 rfl rfl (iv_in (i := p0) (by omega) (by omega)) dX6_hearBlock_62 (fun H locs hP _ hS => ?_)
              have hP : va_P (dC, dI) vwCl (cw_W c kc st lg (rU ai 20 (upd (ai 20) p0.toNatClampNeg (vp_nar .boolean (1 : Int32)))) al R) H := cw_a20 hP
              generalize hU_story_isBlock : upd (ai 20) p0.toNatClampNeg (vp_nar .boolean (1 : Int32)) = g_26 at hP
              clear hU_story_isBlock
              refine lv_aload_n hx hb dX6_hearBlock_63 rfl (lv_at hl 1 rfl) ?_
              refine va_get (D := (dC, dI)) (ci := 8) (v := .ref (c 19)) (C := RX6) (T := TX6) (N := 12) hx hb hts hin_X6 hown hK hP 5 rfl rfl 1 (by decide) (hts (.fieldLink RX6 15 "BlockLog$Story" "digests" "[J") (by decide +kernel)) (fun _ h9 => h9) rfl dX6_hearBlock_64 ?_
              refine lv_iload_n hx hb dX6_hearBlock_67 rfl (lv_at hl 2 rfl) ?_
              refine lv_lload_n hx hb dX6_hearBlock_68 rfl (lv_at hl 0 rfl) ?_
              refine va_last (f := al 19) hx hb hK hP (cw_D hD) hS 15 7 rfl rfl (iv_in (i := p0) (by omega) (by omega)) dX6_hearBlock_69 (fun H locs hP _ hS => ?_)
              have hP : va_P (dC, dI) vwCl (cw_W c kc st lg (rU ai 20 g_26) (rU al 19 (vp_updL (al 19) p0.toNatClampNeg r_9)) R) H := cw_a19 hP
              generalize hU_story_digests : vp_updL (al 19) p0.toNatClampNeg r_9 = g_27 at hP
              clear hU_story_digests
              refine lv_iload_n hx hb dX6_hearBlock_70 rfl (lv_at hl 2 rfl) ?_
              refine lv_aload_n hx hb dX6_hearBlock_71 rfl (lv_at hl 1 rfl) ?_
              refine va_get (D := (dC, dI)) (ci := 8) (v := .ref (c 104)) (C := RX6) (T := TX6) (N := 12) hx hb hts hin_X6 hown hK hP 5 rfl rfl 0 (by decide) (hts (.fieldLink RX6 9 "BlockLog$Story" "rows" "LBlockLog$Rows;") (by decide +kernel)) (fun _ h9 => h9) rfl dX6_hearBlock_72 ?_
              refine lv_iload_n hx hb dX6_hearBlock_75 rfl (lv_at hl 2 rfl) ?_
              refine vp_callSi (va_Run.run (va_runV (As := [.int p0]) (rest := [.int p0]) ⟨hx, hb, hml, hown, hts⟩ (v_X4_b l dC dI c kc st lg (rU ai 20 g_26) (rU al 19 g_27) R p0 (show 0 ≤ (st 15).toInt by omega) (show (st 15).toInt ≤ 1 by omega) (by omega) (by omega)) (cwV 1 hts gX6_hearBlock_X4_b rfl rfl rfl (by decide +kernel) ⟨Nat.le_of_ble_eq_true rfl, Nat.le_of_ble_eq_true rfl⟩) ⟨fun a U g mk q => by obtain ⟨q0, qP, qK, qG⟩ := q; exact ⟨q0, qP, va_K.moved (u := U) (U := U.calling g mk a) (Vm.Alike.refl U.vm) qK, qG.same rfl⟩, va_recv hK hP (ci := 6) (q := (RX4, TX4, 6)) rfl (q0 := 4) rfl, fun U hU hW => ⟨rfl, by rw [hU]; exact hP, va_K.moved hW.alike hK, hGW.warm hW⟩⟩ rfl rfl hl.1 rfl (lv_room (Nat.le_of_ble_eq_true rfl)) dX6_hearBlock_76 ⟨Nat.le_of_ble_eq_true rfl, Nat.le_of_ble_eq_true rfl⟩)) (fun r_28 er_28 => ?_)
              have k_29 := er_28
              have k_29 : r_28.toInt = (cB (ai 7) (st 15) p0).toInt := k_29
              refine lv_iadd hx hb dX6_hearBlock_79 ?_
              refine lv_topi (fun v_30 ev_30 => ?_)
              have rg4 := iv_rng p0
              have rg5 := iv_rng r_28
              have hv_30 : v_30.toInt = p0.toInt + r_28.toInt := by rw [ev_30]; exact (iv_add (by omega) (by omega)).trans (by omega)
              clear ev_30
              refine lv_istore (lv' := [(4, .int v_30), (2, .long r_9), (0, .ref (c 105)), (1, .int p0)]) hx hb dX6_hearBlock_80 hl (by decide) rfl (fun ls hl => ?_)
              refine lv_iload_n hx hb dX6_hearBlock_82 rfl (lv_at hl 3 rfl) ?_
              refine lv_iconst (v := 1) hx hb dX6_hearBlock_83 (by decide) ?_
              refine lv_iadd hx hb dX6_hearBlock_84 ?_
              refine lv_topi (fun v_31 ev_31 => ?_)
              have hv_31 : v_31.toInt = p0.toInt + 1 := by rw [ev_31]; exact (iv_add (by omega) (by omega)).trans (by omega)
              clear ev_31
              refine lv_istore (lv' := [(5, .int v_31), (4, .int v_30), (2, .long r_9), (0, .ref (c 105)), (1, .int p0)]) hx hb dX6_hearBlock_85 hl (by decide) rfl (fun ls hl => ?_)
              have loop87 : ∀ (n : Nat) (l5_87 : Int32) (a21_87 : Nat → Int32) (H : Heap) (locs : List Loc) (ls : Array Slot), (p0.toInt + 1 ≤ l5_87.toInt) → (l5_87.toInt ≤ v_30.toInt + 1) → (v_30.toInt + 1 - l5_87.toInt : Int).toNat < n → va_P (dC, dI) vwCl (cw_W c kc st lg (rU (rU ai 20 g_26) 21 a21_87) (rU al 19 g_27) R) H → va_S A s.heap H locs → lv_has ls 6 [(5, .int l5_87), (4, .int v_30), (2, .long r_9), (0, .ref (c 105)), (1, .int p0)] → W p l e (headSpec wsX6_hearBlock ({ frames := 3, cells := 0, slots := 0, locals := 75 })).room s m ([.ref (c 105), .int p0] : List Value).toArray below meth cM H locs 0 0 (MQ below (va_Qv (fun (_ : Unit) => True) (fun _ t => ∃ (f20 : Nat → Int32) (f21 : Nat → Int32) (g19 : Nat → Int64), va_P (dC, dI) vwCl (cw_W c kc st lg (rU (rU ai 20 f20) 21 f21) (rU al 19 g19) R) t.heap) A) ([.ref (c 105), .int p0] : List Value).toArray s 0 0 A) (F0 m 87 ls []) := by
                intro n
                induction n with
                | zero => intro l5_87 a21_87 H locs ls if0_87 if1_87 hm; exact absurd hm (Nat.not_lt_zero _)
                | succ n ih87 =>
                  intro l5_87 a21_87 H locs ls if0_87 if1_87 hm87 hP hS hl
                  refine lv_iload hx hb dX6_hearBlock_87 (lv_at hl 0 rfl) ?_
                  refine lv_iload hx hb dX6_hearBlock_89 (lv_at hl 1 rfl) ?_
                  refine lv_icmp_gt (tgt := 108) hx hb dX6_hearBlock_91 (by decide) (fun c_32 => ?_) (fun c_32 => ?_)
                  · skip
                    have ic_32 := iv_lt c_32
                    exact W.vret hx hb hr (fun t ht hW => ⟨⟨(), rfl, trivial, g_26, a21_87, g_27, by rw [ht]; exact hP⟩, hS.F ht⟩) hS.2.2 dX6_hearBlock_108
                  · skip
                    have ic_32 := iv_nlt c_32
                    refine lv_aload_n hx hb dX6_hearBlock_94 rfl (lv_at hl 3 rfl) ?_
                    refine va_get (D := (dC, dI)) (ci := 8) (v := .ref (c 21)) (C := RX6) (T := TX6) (N := 12) hx hb hts hin_X6 hown hK hP 5 rfl rfl 3 (by decide) (hts (.fieldLink RX6 23 "BlockLog$Story" "inBlock" "[Z") (by decide +kernel)) (fun _ h9 => h9) rfl dX6_hearBlock_95 ?_
                    refine lv_iload hx hb dX6_hearBlock_98 (lv_at hl 0 rfl) ?_
                    refine lv_iconst (v := 1) hx hb dX6_hearBlock_100 (by decide) ?_
                    refine va_zast (f := a21_87) hx hb hK hP (cw_D hD) hS 17 9 rfl rfl (iv_in (i := l5_87) (by omega) (by omega)) dX6_hearBlock_101 (fun H locs hP _ hS => ?_)
                    have hP : va_P (dC, dI) vwCl (cw_W c kc st lg (rU (rU ai 20 g_26) 21 (upd a21_87 l5_87.toNatClampNeg (vp_nar .boolean (1 : Int32)))) (rU al 19 g_27) R) H := cw_b21 hP
                    generalize hU_story_inBlock : upd a21_87 l5_87.toNatClampNeg (vp_nar .boolean (1 : Int32)) = g_33 at hP
                    clear hU_story_inBlock
                    obtain ⟨x_34, ex_34⟩ : ∃ z : Int32, z = l5_87 + (1) := ⟨_, rfl⟩
                    refine lv_iinc (v := x_34) (lv' := [(5, .int x_34), (4, .int v_30), (2, .long r_9), (0, .ref (c 105)), (1, .int p0)]) hx hb dX6_hearBlock_102 hl (k := 0) rfl (by rw [ex_34]; rfl) (by decide) rfl (fun ls hl => ?_)
                    have rg6 := iv_rng l5_87
                    have hx_34 : x_34.toInt = l5_87.toInt + (1) := by rw [ex_34]; exact (iv_add (by omega) (by omega)).trans (by omega)
                    clear ex_34
                    refine lv_goto (tgt := 87) hx hb dX6_hearBlock_105 (by decide) ?_
                    exact ih87 x_34 g_33 _ _ _ (by omega) (by omega) (by omega) hP hS (lv_sub hl [0, 1, 2, 3, 4] rfl)
              exact loop87 ((v_30.toInt + 1 - v_31.toInt : Int).toNat + 1) v_31 (ai 21) _ _ _ (by omega) (by omega) (by omega) hP hS (lv_sub hl [0, 1, 2, 3, 4] rfl)
            · skip
              have ic_25 := iv_ne c_25
              refine lv_lload_n hx hb dX6_hearBlock_46 rfl (lv_at hl 0 rfl) ?_
              refine lv_aload_n hx hb dX6_hearBlock_47 rfl (lv_at hl 1 rfl) ?_
              refine va_get (D := (dC, dI)) (ci := 8) (v := .ref (c 19)) (C := RX6) (T := TX6) (N := 12) hx hb hts hin_X6 hown hK hP 5 rfl rfl 1 (by decide) (hts (.fieldLink RX6 15 "BlockLog$Story" "digests" "[J") (by decide +kernel)) (fun _ h9 => h9) rfl dX6_hearBlock_48 ?_
              refine lv_iconst (v := 0) hx hb dX6_hearBlock_51 (by decide) ?_
              refine va_lald (f := al 19) hx hb hK hP 15 7 rfl rfl (iv_in (i := (0 : Int32)) (by omega) (by omega)) dX6_hearBlock_52 ?_
              refine lv_topl (fun w_35 ew_35 => ?_)
              clear ew_35
              refine W.lcmp hx hb dX6_hearBlock_53 ?_
              refine lv_topi (fun v_36 ev_36 => ?_)
              clear ev_36
              refine lv_if_eq (tgt := 61) hx hb dX6_hearBlock_54 (by decide) (fun c_37 => ?_) (fun c_37 => ?_)
              · skip
                have ic_37 := iv_eq c_37
                refine lv_iconst (v := 0) hx hb dX6_hearBlock_61 (by decide) ?_
                refine va_zast (f := ai 20) hx hb hK hP (cw_D hD) hS 16 8 rfl rfl (iv_in (i := p0) (by omega) (by omega)) dX6_hearBlock_62 (fun H locs hP _ hS => ?_)
                have hP : va_P (dC, dI) vwCl (cw_W c kc st lg (rU ai 20 (upd (ai 20) p0.toNatClampNeg (vp_nar .boolean (0 : Int32)))) al R) H := cw_a20 hP
                generalize hU_story_isBlock : upd (ai 20) p0.toNatClampNeg (vp_nar .boolean (0 : Int32)) = g_38 at hP
                clear hU_story_isBlock
                refine lv_aload_n hx hb dX6_hearBlock_63 rfl (lv_at hl 1 rfl) ?_
                refine va_get (D := (dC, dI)) (ci := 8) (v := .ref (c 19)) (C := RX6) (T := TX6) (N := 12) hx hb hts hin_X6 hown hK hP 5 rfl rfl 1 (by decide) (hts (.fieldLink RX6 15 "BlockLog$Story" "digests" "[J") (by decide +kernel)) (fun _ h9 => h9) rfl dX6_hearBlock_64 ?_
                refine lv_iload_n hx hb dX6_hearBlock_67 rfl (lv_at hl 2 rfl) ?_
                refine lv_lload_n hx hb dX6_hearBlock_68 rfl (lv_at hl 0 rfl) ?_
                refine va_last (f := al 19) hx hb hK hP (cw_D hD) hS 15 7 rfl rfl (iv_in (i := p0) (by omega) (by omega)) dX6_hearBlock_69 (fun H locs hP _ hS => ?_)
                have hP : va_P (dC, dI) vwCl (cw_W c kc st lg (rU ai 20 g_38) (rU al 19 (vp_updL (al 19) p0.toNatClampNeg r_9)) R) H := cw_a19 hP
                generalize hU_story_digests : vp_updL (al 19) p0.toNatClampNeg r_9 = g_39 at hP
                clear hU_story_digests
                refine lv_iload_n hx hb dX6_hearBlock_70 rfl (lv_at hl 2 rfl) ?_
                refine lv_aload_n hx hb dX6_hearBlock_71 rfl (lv_at hl 1 rfl) ?_
                refine va_get (D := (dC, dI)) (ci := 8) (v := .ref (c 104)) (C := RX6) (T := TX6) (N := 12) hx hb hts hin_X6 hown hK hP 5 rfl rfl 0 (by decide) (hts (.fieldLink RX6 9 "BlockLog$Story" "rows" "LBlockLog$Rows;") (by decide +kernel)) (fun _ h9 => h9) rfl dX6_hearBlock_72 ?_
                refine lv_iload_n hx hb dX6_hearBlock_75 rfl (lv_at hl 2 rfl) ?_
                refine vp_callSi (va_Run.run (va_runV (As := [.int p0]) (rest := [.int p0]) ⟨hx, hb, hml, hown, hts⟩ (v_X4_b l dC dI c kc st lg (rU ai 20 g_38) (rU al 19 g_39) R p0 (show 0 ≤ (st 15).toInt by omega) (show (st 15).toInt ≤ 1 by omega) (by omega) (by omega)) (cwV 1 hts gX6_hearBlock_X4_b rfl rfl rfl (by decide +kernel) ⟨Nat.le_of_ble_eq_true rfl, Nat.le_of_ble_eq_true rfl⟩) ⟨fun a U g mk q => by obtain ⟨q0, qP, qK, qG⟩ := q; exact ⟨q0, qP, va_K.moved (u := U) (U := U.calling g mk a) (Vm.Alike.refl U.vm) qK, qG.same rfl⟩, va_recv hK hP (ci := 6) (q := (RX4, TX4, 6)) rfl (q0 := 4) rfl, fun U hU hW => ⟨rfl, by rw [hU]; exact hP, va_K.moved hW.alike hK, hGW.warm hW⟩⟩ rfl rfl hl.1 rfl (lv_room (Nat.le_of_ble_eq_true rfl)) dX6_hearBlock_76 ⟨Nat.le_of_ble_eq_true rfl, Nat.le_of_ble_eq_true rfl⟩)) (fun r_40 er_40 => ?_)
                have k_41 := er_40
                have k_41 : r_40.toInt = (cB (ai 7) (st 15) p0).toInt := k_41
                refine lv_iadd hx hb dX6_hearBlock_79 ?_
                refine lv_topi (fun v_42 ev_42 => ?_)
                have rg7 := iv_rng p0
                have rg8 := iv_rng r_40
                have hv_42 : v_42.toInt = p0.toInt + r_40.toInt := by rw [ev_42]; exact (iv_add (by omega) (by omega)).trans (by omega)
                clear ev_42
                refine lv_istore (lv' := [(4, .int v_42), (2, .long r_9), (0, .ref (c 105)), (1, .int p0)]) hx hb dX6_hearBlock_80 hl (by decide) rfl (fun ls hl => ?_)
                refine lv_iload_n hx hb dX6_hearBlock_82 rfl (lv_at hl 3 rfl) ?_
                refine lv_iconst (v := 1) hx hb dX6_hearBlock_83 (by decide) ?_
                refine lv_iadd hx hb dX6_hearBlock_84 ?_
                refine lv_topi (fun v_43 ev_43 => ?_)
                have hv_43 : v_43.toInt = p0.toInt + 1 := by rw [ev_43]; exact (iv_add (by omega) (by omega)).trans (by omega)
                clear ev_43
                refine lv_istore (lv' := [(5, .int v_43), (4, .int v_42), (2, .long r_9), (0, .ref (c 105)), (1, .int p0)]) hx hb dX6_hearBlock_85 hl (by decide) rfl (fun ls hl => ?_)
                have loop87 : ∀ (n : Nat) (l5_87 : Int32) (a21_87 : Nat → Int32) (H : Heap) (locs : List Loc) (ls : Array Slot), (p0.toInt + 1 ≤ l5_87.toInt) → (l5_87.toInt ≤ v_42.toInt + 1) → (v_42.toInt + 1 - l5_87.toInt : Int).toNat < n → va_P (dC, dI) vwCl (cw_W c kc st lg (rU (rU ai 20 g_38) 21 a21_87) (rU al 19 g_39) R) H → va_S A s.heap H locs → lv_has ls 6 [(5, .int l5_87), (4, .int v_42), (2, .long r_9), (0, .ref (c 105)), (1, .int p0)] → W p l e (headSpec wsX6_hearBlock ({ frames := 3, cells := 0, slots := 0, locals := 75 })).room s m ([.ref (c 105), .int p0] : List Value).toArray below meth cM H locs 0 0 (MQ below (va_Qv (fun (_ : Unit) => True) (fun _ t => ∃ (f20 : Nat → Int32) (f21 : Nat → Int32) (g19 : Nat → Int64), va_P (dC, dI) vwCl (cw_W c kc st lg (rU (rU ai 20 f20) 21 f21) (rU al 19 g19) R) t.heap) A) ([.ref (c 105), .int p0] : List Value).toArray s 0 0 A) (F0 m 87 ls []) := by
                  intro n
                  induction n with
                  | zero => intro l5_87 a21_87 H locs ls if0_87 if1_87 hm; exact absurd hm (Nat.not_lt_zero _)
                  | succ n ih87 =>
                    intro l5_87 a21_87 H locs ls if0_87 if1_87 hm87 hP hS hl
                    refine lv_iload hx hb dX6_hearBlock_87 (lv_at hl 0 rfl) ?_
                    refine lv_iload hx hb dX6_hearBlock_89 (lv_at hl 1 rfl) ?_
                    refine lv_icmp_gt (tgt := 108) hx hb dX6_hearBlock_91 (by decide) (fun c_44 => ?_) (fun c_44 => ?_)
                    · skip
                      have ic_44 := iv_lt c_44
                      exact W.vret hx hb hr (fun t ht hW => ⟨⟨(), rfl, trivial, g_38, a21_87, g_39, by rw [ht]; exact hP⟩, hS.F ht⟩) hS.2.2 dX6_hearBlock_108
                    · skip
                      have ic_44 := iv_nlt c_44
                      refine lv_aload_n hx hb dX6_hearBlock_94 rfl (lv_at hl 3 rfl) ?_
                      refine va_get (D := (dC, dI)) (ci := 8) (v := .ref (c 21)) (C := RX6) (T := TX6) (N := 12) hx hb hts hin_X6 hown hK hP 5 rfl rfl 3 (by decide) (hts (.fieldLink RX6 23 "BlockLog$Story" "inBlock" "[Z") (by decide +kernel)) (fun _ h9 => h9) rfl dX6_hearBlock_95 ?_
                      refine lv_iload hx hb dX6_hearBlock_98 (lv_at hl 0 rfl) ?_
                      refine lv_iconst (v := 1) hx hb dX6_hearBlock_100 (by decide) ?_
                      refine va_zast (f := a21_87) hx hb hK hP (cw_D hD) hS 17 9 rfl rfl (iv_in (i := l5_87) (by omega) (by omega)) dX6_hearBlock_101 (fun H locs hP _ hS => ?_)
                      have hP : va_P (dC, dI) vwCl (cw_W c kc st lg (rU (rU ai 20 g_38) 21 (upd a21_87 l5_87.toNatClampNeg (vp_nar .boolean (1 : Int32)))) (rU al 19 g_39) R) H := cw_b21 hP
                      generalize hU_story_inBlock : upd a21_87 l5_87.toNatClampNeg (vp_nar .boolean (1 : Int32)) = g_45 at hP
                      clear hU_story_inBlock
                      obtain ⟨x_46, ex_46⟩ : ∃ z : Int32, z = l5_87 + (1) := ⟨_, rfl⟩
                      refine lv_iinc (v := x_46) (lv' := [(5, .int x_46), (4, .int v_42), (2, .long r_9), (0, .ref (c 105)), (1, .int p0)]) hx hb dX6_hearBlock_102 hl (k := 0) rfl (by rw [ex_46]; rfl) (by decide) rfl (fun ls hl => ?_)
                      have rg9 := iv_rng l5_87
                      have hx_46 : x_46.toInt = l5_87.toInt + (1) := by rw [ex_46]; exact (iv_add (by omega) (by omega)).trans (by omega)
                      clear ex_46
                      refine lv_goto (tgt := 87) hx hb dX6_hearBlock_105 (by decide) ?_
                      exact ih87 x_46 g_45 _ _ _ (by omega) (by omega) (by omega) hP hS (lv_sub hl [0, 1, 2, 3, 4] rfl)
                exact loop87 ((v_42.toInt + 1 - v_43.toInt : Int).toNat + 1) v_43 (ai 21) _ _ _ (by omega) (by omega) (by omega) hP hS (lv_sub hl [0, 1, 2, 3, 4] rfl)
              · skip
                have ic_37 := iv_ne c_37
                refine lv_iconst (v := 1) hx hb dX6_hearBlock_57 (by decide) ?_
                refine lv_goto (tgt := 62) hx hb dX6_hearBlock_58 (by decide) ?_
                refine va_zast (f := ai 20) hx hb hK hP (cw_D hD) hS 16 8 rfl rfl (iv_in (i := p0) (by omega) (by omega)) dX6_hearBlock_62 (fun H locs hP _ hS => ?_)
                have hP : va_P (dC, dI) vwCl (cw_W c kc st lg (rU ai 20 (upd (ai 20) p0.toNatClampNeg (vp_nar .boolean (1 : Int32)))) al R) H := cw_a20 hP
                generalize hU_story_isBlock : upd (ai 20) p0.toNatClampNeg (vp_nar .boolean (1 : Int32)) = g_47 at hP
                clear hU_story_isBlock
                refine lv_aload_n hx hb dX6_hearBlock_63 rfl (lv_at hl 1 rfl) ?_
                refine va_get (D := (dC, dI)) (ci := 8) (v := .ref (c 19)) (C := RX6) (T := TX6) (N := 12) hx hb hts hin_X6 hown hK hP 5 rfl rfl 1 (by decide) (hts (.fieldLink RX6 15 "BlockLog$Story" "digests" "[J") (by decide +kernel)) (fun _ h9 => h9) rfl dX6_hearBlock_64 ?_
                refine lv_iload_n hx hb dX6_hearBlock_67 rfl (lv_at hl 2 rfl) ?_
                refine lv_lload_n hx hb dX6_hearBlock_68 rfl (lv_at hl 0 rfl) ?_
                refine va_last (f := al 19) hx hb hK hP (cw_D hD) hS 15 7 rfl rfl (iv_in (i := p0) (by omega) (by omega)) dX6_hearBlock_69 (fun H locs hP _ hS => ?_)
                have hP : va_P (dC, dI) vwCl (cw_W c kc st lg (rU ai 20 g_47) (rU al 19 (vp_updL (al 19) p0.toNatClampNeg r_9)) R) H := cw_a19 hP
                generalize hU_story_digests : vp_updL (al 19) p0.toNatClampNeg r_9 = g_48 at hP
                clear hU_story_digests
                refine lv_iload_n hx hb dX6_hearBlock_70 rfl (lv_at hl 2 rfl) ?_
                refine lv_aload_n hx hb dX6_hearBlock_71 rfl (lv_at hl 1 rfl) ?_
                refine va_get (D := (dC, dI)) (ci := 8) (v := .ref (c 104)) (C := RX6) (T := TX6) (N := 12) hx hb hts hin_X6 hown hK hP 5 rfl rfl 0 (by decide) (hts (.fieldLink RX6 9 "BlockLog$Story" "rows" "LBlockLog$Rows;") (by decide +kernel)) (fun _ h9 => h9) rfl dX6_hearBlock_72 ?_
                refine lv_iload_n hx hb dX6_hearBlock_75 rfl (lv_at hl 2 rfl) ?_
                refine vp_callSi (va_Run.run (va_runV (As := [.int p0]) (rest := [.int p0]) ⟨hx, hb, hml, hown, hts⟩ (v_X4_b l dC dI c kc st lg (rU ai 20 g_47) (rU al 19 g_48) R p0 (show 0 ≤ (st 15).toInt by omega) (show (st 15).toInt ≤ 1 by omega) (by omega) (by omega)) (cwV 1 hts gX6_hearBlock_X4_b rfl rfl rfl (by decide +kernel) ⟨Nat.le_of_ble_eq_true rfl, Nat.le_of_ble_eq_true rfl⟩) ⟨fun a U g mk q => by obtain ⟨q0, qP, qK, qG⟩ := q; exact ⟨q0, qP, va_K.moved (u := U) (U := U.calling g mk a) (Vm.Alike.refl U.vm) qK, qG.same rfl⟩, va_recv hK hP (ci := 6) (q := (RX4, TX4, 6)) rfl (q0 := 4) rfl, fun U hU hW => ⟨rfl, by rw [hU]; exact hP, va_K.moved hW.alike hK, hGW.warm hW⟩⟩ rfl rfl hl.1 rfl (lv_room (Nat.le_of_ble_eq_true rfl)) dX6_hearBlock_76 ⟨Nat.le_of_ble_eq_true rfl, Nat.le_of_ble_eq_true rfl⟩)) (fun r_49 er_49 => ?_)
                have k_50 := er_49
                have k_50 : r_49.toInt = (cB (ai 7) (st 15) p0).toInt := k_50
                refine lv_iadd hx hb dX6_hearBlock_79 ?_
                refine lv_topi (fun v_51 ev_51 => ?_)
                have rg10 := iv_rng p0
                have rg11 := iv_rng r_49
                have hv_51 : v_51.toInt = p0.toInt + r_49.toInt := by rw [ev_51]; exact (iv_add (by omega) (by omega)).trans (by omega)
                clear ev_51
                refine lv_istore (lv' := [(4, .int v_51), (2, .long r_9), (0, .ref (c 105)), (1, .int p0)]) hx hb dX6_hearBlock_80 hl (by decide) rfl (fun ls hl => ?_)
                refine lv_iload_n hx hb dX6_hearBlock_82 rfl (lv_at hl 3 rfl) ?_
                refine lv_iconst (v := 1) hx hb dX6_hearBlock_83 (by decide) ?_
                refine lv_iadd hx hb dX6_hearBlock_84 ?_
                refine lv_topi (fun v_52 ev_52 => ?_)
                have hv_52 : v_52.toInt = p0.toInt + 1 := by rw [ev_52]; exact (iv_add (by omega) (by omega)).trans (by omega)
                clear ev_52
                refine lv_istore (lv' := [(5, .int v_52), (4, .int v_51), (2, .long r_9), (0, .ref (c 105)), (1, .int p0)]) hx hb dX6_hearBlock_85 hl (by decide) rfl (fun ls hl => ?_)
                have loop87 : ∀ (n : Nat) (l5_87 : Int32) (a21_87 : Nat → Int32) (H : Heap) (locs : List Loc) (ls : Array Slot), (p0.toInt + 1 ≤ l5_87.toInt) → (l5_87.toInt ≤ v_51.toInt + 1) → (v_51.toInt + 1 - l5_87.toInt : Int).toNat < n → va_P (dC, dI) vwCl (cw_W c kc st lg (rU (rU ai 20 g_47) 21 a21_87) (rU al 19 g_48) R) H → va_S A s.heap H locs → lv_has ls 6 [(5, .int l5_87), (4, .int v_51), (2, .long r_9), (0, .ref (c 105)), (1, .int p0)] → W p l e (headSpec wsX6_hearBlock ({ frames := 3, cells := 0, slots := 0, locals := 75 })).room s m ([.ref (c 105), .int p0] : List Value).toArray below meth cM H locs 0 0 (MQ below (va_Qv (fun (_ : Unit) => True) (fun _ t => ∃ (f20 : Nat → Int32) (f21 : Nat → Int32) (g19 : Nat → Int64), va_P (dC, dI) vwCl (cw_W c kc st lg (rU (rU ai 20 f20) 21 f21) (rU al 19 g19) R) t.heap) A) ([.ref (c 105), .int p0] : List Value).toArray s 0 0 A) (F0 m 87 ls []) := by
                  intro n
                  induction n with
                  | zero => intro l5_87 a21_87 H locs ls if0_87 if1_87 hm; exact absurd hm (Nat.not_lt_zero _)
                  | succ n ih87 =>
                    intro l5_87 a21_87 H locs ls if0_87 if1_87 hm87 hP hS hl
                    refine lv_iload hx hb dX6_hearBlock_87 (lv_at hl 0 rfl) ?_
                    refine lv_iload hx hb dX6_hearBlock_89 (lv_at hl 1 rfl) ?_
                    refine lv_icmp_gt (tgt := 108) hx hb dX6_hearBlock_91 (by decide) (fun c_53 => ?_) (fun c_53 => ?_)
                    · skip
                      have ic_53 := iv_lt c_53
                      exact W.vret hx hb hr (fun t ht hW => ⟨⟨(), rfl, trivial, g_47, a21_87, g_48, by rw [ht]; exact hP⟩, hS.F ht⟩) hS.2.2 dX6_hearBlock_108
                    · skip
                      have ic_53 := iv_nlt c_53
                      refine lv_aload_n hx hb dX6_hearBlock_94 rfl (lv_at hl 3 rfl) ?_
                      refine va_get (D := (dC, dI)) (ci := 8) (v := .ref (c 21)) (C := RX6) (T := TX6) (N := 12) hx hb hts hin_X6 hown hK hP 5 rfl rfl 3 (by decide) (hts (.fieldLink RX6 23 "BlockLog$Story" "inBlock" "[Z") (by decide +kernel)) (fun _ h9 => h9) rfl dX6_hearBlock_95 ?_
                      refine lv_iload hx hb dX6_hearBlock_98 (lv_at hl 0 rfl) ?_
                      refine lv_iconst (v := 1) hx hb dX6_hearBlock_100 (by decide) ?_
                      refine va_zast (f := a21_87) hx hb hK hP (cw_D hD) hS 17 9 rfl rfl (iv_in (i := l5_87) (by omega) (by omega)) dX6_hearBlock_101 (fun H locs hP _ hS => ?_)
                      have hP : va_P (dC, dI) vwCl (cw_W c kc st lg (rU (rU ai 20 g_47) 21 (upd a21_87 l5_87.toNatClampNeg (vp_nar .boolean (1 : Int32)))) (rU al 19 g_48) R) H := cw_b21 hP
                      generalize hU_story_inBlock : upd a21_87 l5_87.toNatClampNeg (vp_nar .boolean (1 : Int32)) = g_54 at hP
                      clear hU_story_inBlock
                      obtain ⟨x_55, ex_55⟩ : ∃ z : Int32, z = l5_87 + (1) := ⟨_, rfl⟩
                      refine lv_iinc (v := x_55) (lv' := [(5, .int x_55), (4, .int v_51), (2, .long r_9), (0, .ref (c 105)), (1, .int p0)]) hx hb dX6_hearBlock_102 hl (k := 0) rfl (by rw [ex_55]; rfl) (by decide) rfl (fun ls hl => ?_)
                      have rg12 := iv_rng l5_87
                      have hx_55 : x_55.toInt = l5_87.toInt + (1) := by rw [ex_55]; exact (iv_add (by omega) (by omega)).trans (by omega)
                      clear ex_55
                      refine lv_goto (tgt := 87) hx hb dX6_hearBlock_105 (by decide) ?_
                      exact ih87 x_55 g_54 _ _ _ (by omega) (by omega) (by omega) hP hS (lv_sub hl [0, 1, 2, 3, 4] rfl)
                exact loop87 ((v_51.toInt + 1 - v_52.toInt : Int).toNat + 1) v_52 (ai 21) _ _ _ (by omega) (by omega) (by omega) hP hS (lv_sub hl [0, 1, 2, 3, 4] rfl)
        · skip
          have ic_11 := iv_eq c_11
          exact W.vret hx hb hr (fun t ht hW => ⟨⟨(), rfl, trivial, ai 20, ai 21, al 19, by rw [ht]; exact hP⟩, hS.F ht⟩) hS.2.2 dX6_hearBlock_24
  exact main s.heap [] hP hS
