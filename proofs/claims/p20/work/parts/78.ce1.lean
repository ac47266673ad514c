set_option maxHeartbeats 4000000 in
set_option maxRecDepth 100000 in
theorem v_X8_sent (l : Launch) (hl0 : l.stackTraces = false) (dC : Nat → ClassId) (dI : Nat → Nat → Nat) (c : Nat → Nat) (kc : Nat → ClassId) (st : Nat → Int32) (lg : Nat → Int64) (ai : Nat → Nat → Int32) (al : Nat → Nat → Int64) (R : va_W) (p0 : Int32) (sz : Nat) (hf9a : 0 ≤ (st 9).toInt) (hf9b : (st 9).toInt ≤ 1) (hf15a : 0 ≤ (st 15).toInt) (hf15b : (st 15).toInt ≤ 1) (hf17a : 0 ≤ (st 17).toInt) (hf17b : (st 17).toInt ≤ 128) (hR7 : aR (ai 7) 8224 (-128) 127) : vx_Met l yX8_sent wsX8_sent ({ frames := 7, cells := 2, slots := 12, locals := 120 }) (va_Pc [.ref (c 100), .int p0] (fun U => U.heap.size = sz ∧ va_P (dC, dI) vwCl (cw_W c kc st lg ai al R) U.heap ∧ va_K (dC, dI) vwCl (cw_T kc) U ∧ va_D (fun _ => True) (cw_W c kc st lg ai al R) ∧ gx_E (va_A (cw_W c kc st lg ai al R) sz) U)) (va_Qi (fun r (u : Int32) => r = u) (fun u t => ∃ (f8 : Nat → Int32), (0 ≤ u.toInt) ∧ (u.toInt ≤ 1) ∧ va_P (dC, dI) vwCl (cw_W c kc st lg (rU ai 8 f8) al R) t.heap) (va_A (cw_W c kc st lg ai al R) sz)) (vx_X (fun _ : Unit => True) (fun E _ t => E ∈ (["java/lang/IllegalStateException", "java/lang/IndexOutOfBoundsException"] : List String) ∧ ∃ (f8 : Nat → Int32), va_P (dC, dI) vwCl (cw_W c kc st lg (rU ai 8 f8) al R) t.heap) (va_A (cw_W c kc st lg ai al R) sz)) 2 12 (va_A (cw_W c kc st lg ai al R) sz) := by
  refine vx_ofW (cc := cX8_sent) (maxL := 2) (ret := (some .boolean)) (by decide) rfl ?_
  intro p e s m args below meth cM s₁ B hml hno hv
  obtain ⟨rfl, hsz, hP, hK, hD0, hG⟩ := hv
  have hx := B.exec
  have hb := B.bytes
  have hr := B.returns
  have hts := atoms_spec (ws := wsX8_sent) B.pre
  have hown : s.vm.findClass RX8 = some m.cls := findClass_of_methodNamed B.named
  have hGW := hG.1
  have hlocks := B.notSynchronized
  subst hsz
  have hD := hD0.self (sz := s.heap.size)
  generalize hAe : va_A (cw_W c kc st lg ai al R) s.heap.size = A at hD hG ⊢
  have hA : ∀ q : Nat, s.heap.size ≤ q → A q := fun q h => by rw [← hAe]; exact Or.inr h
  have hS : va_S A s.heap s.heap [] := va_S.rf
  clear hAe hD0
  have hl := lv_entry ([.ref (c 100), .int p0]) (n := 2) (Nat.le_of_ble_eq_true rfl)
  rw [lg_entry_eq]
  generalize (lg_sl ([.ref (c 100), .int p0]) ++ List.replicate (2 - (lg_sl ([.ref (c 100), .int p0])).length) Slot.unset).toArray = ls at hl ⊢
  have hl : lv_has ls 2 [(0, .ref (c 100)), (1, .int p0)] := hl
  have z_0 : (0 : Int32).toInt = 0 := by decide
  have z_1 : (1 : Int32).toInt = 1 := by decide
  have z_2 : (2 : Int32).toInt = 2 := by decide
  have hin_X8 : ∀ w ∈ u_ws RX8 TX8 10, w ∈ wsX8_sent := by decide +kernel
  have main : ∀ (H : Heap) (locs : List Loc), va_P (dC, dI) vwCl (cw_W c kc st lg ai al R) H → va_S A s.heap H locs → W p l e (headSpec wsX8_sent ({ frames := 7, cells := 2, slots := 12, locals := 120 })).room s m ([.ref (c 100), .int p0] : List Value).toArray below meth cM H locs 0 0 (vx_MQ below (va_Qi (fun r (u : Int32) => r = u) (fun u t => ∃ (f8 : Nat → Int32), (0 ≤ u.toInt) ∧ (u.toInt ≤ 1) ∧ va_P (dC, dI) vwCl (cw_W c kc st lg (rU ai 8 f8) al R) t.heap) A) (vx_X (fun _ : Unit => True) (fun E _ t => E ∈ (["java/lang/IllegalStateException", "java/lang/IndexOutOfBoundsException"] : List String) ∧ ∃ (f8 : Nat → Int32), va_P (dC, dI) vwCl (cw_W c kc st lg (rU ai 8 f8) al R) t.heap) A) ([.ref (c 100), .int p0] : List Value).toArray s 2 12 A) (F0 m 0 ls []) := by
    intro H locs hP hS
    refine lv_aload_n hx hb dX8_sent_0 rfl (lv_at hl 0 rfl) ?_
    refine lv_iload_n hx hb dX8_sent_1 rfl (lv_at hl 1 rfl) ?_
    have hFc := vfree ((cw_D hD : va_D A (cw_W c kc st lg ai al R)) : va_D A (cw_W c kc st lg ai al R)) hS hA
    refine vx_callv (vx_runV (As := [.int p0]) (rest := []) ⟨hx, hb, hml, hown, hts⟩ (v_X8_demandRow l hl0 dC dI c kc st lg ai al R p0 _ (show 0 ≤ (st 9).toInt by omega) (show (st 9).toInt ≤ 1 by omega) (show 0 ≤ (st 17).toInt by omega) (show (st 17).toInt ≤ 128 by omega)) (cwV 1 hts gX8_sent_X8_demandRow rfl rfl rfl (by decide +kernel) ⟨Nat.le_of_ble_eq_true rfl, Nat.le_of_ble_eq_true rfl⟩) ⟨fun a U g mk q => by obtain ⟨q0, q1, qP, qK, qD, qG⟩ := q; exact ⟨q0, q1, qP, va_K.moved (u := U) (U := U.calling g mk a) (Vm.Alike.refl U.vm) qK, qD, qG.same rfl rfl⟩, va_recv hK hP (ci := 10) (q := (RX8, TX8, 10)) rfl (q0 := 0) rfl, fun U hU hW => ⟨rfl, by rw [hU], by rw [hU]; exact hP, va_K.moved hW.alike hK, ((cw_D hD : va_D A (cw_W c kc st lg ai al R))).weaken (fun _ _ _ _ => trivial), hG.go hW hU hS hFc⟩⟩ rfl rfl hl.1 rfl (lv_room (Nat.le_of_ble_eq_true rfl)) dX8_sent_2 ⟨Nat.le_of_ble_eq_true rfl, Nat.le_of_ble_eq_true rfl⟩) hS (fun q _ h => hFc q h) hFc (fun q _ h => hFc q h) (fun E9 ce q9 u t H1 locs ht hvm hp hE hz hk hS hcell hv hcl => ?_) (fun ur_1 t H1 locs ht hvm er_1 hB hz1 hk1 hS => ?_)
    · skip
      obtain ⟨hE, hP1⟩ := hE
      rw [ht] at hP1
      have hP : va_P (dC, dI) vwCl (cw_W c kc st lg ai al R) H1 := hP1
      exact vx_out (fun x h => (hno x h).elim) hlocks hcell hv hcl (fun t ht hW => ⟨(), trivial, ⟨(show ∀ x ∈ (["java/lang/IndexOutOfBoundsException"] : List String), x ∈ (["java/lang/IllegalStateException", "java/lang/IndexOutOfBoundsException"] : List String) by decide +kernel) _ hE, ai 8, by rw [ht]; exact hP⟩, hS.F ht⟩) hS.2.2 (Nat.le_of_ble_eq_true rfl) (Nat.le_of_ble_eq_true rfl)
    · skip
      obtain ⟨k_2, k_3, hP1⟩ := hB
      rw [ht] at hP1
      clear hFc hz1 hk1 hvm hP
      subst ht
      have hP := hP1
      clear hP1
      generalize t.heap = H at hP hS ⊢
      have hP : va_P (dC, dI) vwCl (cw_W c kc st lg ai al R) H := hP
      refine lv_aload_n hx hb dX8_sent_5 rfl (lv_at hl 0 rfl) ?_
      have hFc := vfree ((cw_D hD : va_D A (cw_W c kc st lg ai al R)) : va_D A (cw_W c kc st lg ai al R)) hS hA
      refine vx_callv (vx_runV (As := []) (rest := []) ⟨hx, hb, hml, hown, hts⟩ (v_X8_demandPower l hl0 dC dI c kc st lg ai al R  _ (show 0 ≤ (st 9).toInt by omega) (show (st 9).toInt ≤ 1 by omega)) (cwV 0 hts gX8_sent_X8_demandPower rfl rfl rfl (by decide +kernel) ⟨Nat.le_of_ble_eq_true rfl, Nat.le_of_ble_eq_true rfl⟩) ⟨fun a U g mk q => by obtain ⟨q0, q1, qP, qK, qD, qG⟩ := q; exact ⟨q0, q1, qP, va_K.moved (u := U) (U := U.calling g mk a) (Vm.Alike.refl U.vm) qK, qD, qG.same rfl rfl⟩, va_recv hK hP (ci := 10) (q := (RX8, TX8, 10)) rfl (q0 := 0) rfl, fun U hU hW => ⟨rfl, by rw [hU], by rw [hU]; exact hP, va_K.moved hW.alike hK, ((cw_D hD : va_D A (cw_W c kc st lg ai al R))).weaken (fun _ _ _ _ => trivial), hG.go hW hU hS hFc⟩⟩ rfl rfl hl.1 rfl (lv_room (Nat.le_of_ble_eq_true rfl)) dX8_sent_6 ⟨Nat.le_of_ble_eq_true rfl, Nat.le_of_ble_eq_true rfl⟩) hS (fun q _ h => hFc q h) hFc (fun q _ h => hFc q h) (fun E9 ce q9 u t H1 locs ht hvm hp hE hz hk hS hcell hv hcl => ?_) (fun ur_4 t H1 locs ht hvm er_4 hB hz1 hk1 hS => ?_)
      · skip
        obtain ⟨hE, hP1⟩ := hE
        rw [ht] at hP1
        have hP : va_P (dC, dI) vwCl (cw_W c kc st lg ai al R) H1 := hP1
        exact vx_out (fun x h => (hno x h).elim) hlocks hcell hv hcl (fun t ht hW => ⟨(), trivial, ⟨(show ∀ x ∈ (["java/lang/IllegalStateException"] : List String), x ∈ (["java/lang/IllegalStateException", "java/lang/IndexOutOfBoundsException"] : List String) by decide +kernel) _ hE, ai 8, by rw [ht]; exact hP⟩, hS.F ht⟩) hS.2.2 (Nat.le_of_ble_eq_true rfl) (Nat.le_of_ble_eq_true rfl)
      · skip
        have hP1 : va_P (dC, dI) vwCl (cw_W c kc st lg ai al R) t.heap := hB
        rw [ht] at hP1
        clear hFc hz1 hk1 hvm hP
        subst ht
        have hP := hP1
        clear hP1
        generalize t.heap = H at hP hS ⊢
        have hP : va_P (dC, dI) vwCl (cw_W c kc st lg ai al R) H := hP
        refine lv_aload_n hx hb dX8_sent_9 rfl (lv_at hl 0 rfl) ?_
        refine va_get (D := (dC, dI)) (ci := 10) (v := .ref (c 104)) (C := RX8) (T := TX8) (N := 10) hx hb hts hin_X8 hown hK hP 0 rfl rfl 2 (by decide) (hts (.fieldLink RX8 31 "BlockLog" "rows" "LBlockLog$Rows;") (by decide +kernel)) (fun _ h9 => h9) rfl dX8_sent_10 ?_
        refine lv_iload_n hx hb dX8_sent_13 rfl (lv_at hl 1 rfl) ?_
        have hFc := vfree ((cw_D hD : va_D A (cw_W c kc st lg ai al R)) : va_D A (cw_W c kc st lg ai al R)) hS hA
        refine va_calli (va_runV (As := [.int p0]) (rest := []) ⟨hx, hb, hml, hown, hts⟩ (v_X4_state l dC dI c kc st lg ai al R p0 _ (show 0 ≤ (st 15).toInt by omega) (show (st 15).toInt ≤ 1 by omega) (by omega) (by omega)) (cwV 1 hts gX8_sent_X4_state rfl rfl rfl (by decide +kernel) ⟨Nat.le_of_ble_eq_true rfl, Nat.le_of_ble_eq_true rfl⟩) ⟨fun a U g mk q => by obtain ⟨q0, q1, qP, qK, qD⟩ := q; exact ⟨q0, q1, qP, va_K.moved (u := U) (U := U.calling g mk a) (Vm.Alike.refl U.vm) qK, qD⟩, va_recv hK hP (ci := 6) (q := (RX4, TX4, 6)) rfl (q0 := 4) rfl, fun U hU hW => ⟨rfl, by rw [hU], by rw [hU]; exact hP, va_K.moved hW.alike hK, ((cw_D hD : va_D A (cw_W c kc st lg ai al R))).weaken (fun _ _ _ _ => trivial)⟩⟩ rfl rfl hl.1 rfl (lv_room (Nat.le_of_ble_eq_true rfl)) dX8_sent_14 ⟨Nat.le_of_ble_eq_true rfl, Nat.le_of_ble_eq_true rfl⟩) hS (fun q _ h => hFc q h) hFc (fun r_5 ur_5 t H1 locs ht hvm er_5 hB hz1 hk1 hS => ?_)
        subst er_5
        obtain ⟨f8_5, hP1⟩ := hB
        rw [ht] at hP1
        clear hFc hz1 hk1 hvm hP
        subst ht
        have hP := hP1
        clear hP1
        generalize t.heap = H at hP hS ⊢
        have hP : va_P (dC, dI) vwCl (cw_W c kc st lg (rU ai 8 f8_5) al R) H := hP
        refine lv_iconst (v := 2) hx hb dX8_sent_17 (by decide) ?_
        refine lv_icmp_ne (tgt := 37) hx hb dX8_sent_18 (by decide) (fun c_6 => ?_) (fun c_6 => ?_)
        · skip
          have ic_6 := iv_ne c_6
          refine lv_iconst (v := 0) hx hb dX8_sent_37 (by decide) ?_
          refine W.widen (k := 2) (n := 12) (Nat.le_of_ble_eq_true rfl) (Nat.le_of_ble_eq_true rfl) ?_
          refine vx_ret ?_
          exact W.zret hx hb hr rfl (fun t ht hW => ⟨⟨_, _, rfl, rfl, f8_5, (by omega), (by omega), by rw [ht]; exact hP⟩, hS.F ht⟩) hS.2.2 dX8_sent_38
        · skip
          have ic_6 := iv_eq c_6
          refine lv_aload_n hx hb dX8_sent_21 rfl (lv_at hl 0 rfl) ?_
          refine va_get (D := (dC, dI)) (ci := 10) (v := .ref (c 104)) (C := RX8) (T := TX8) (N := 10) hx hb hts hin_X8 hown hK hP 0 rfl rfl 2 (by decide) (hts (.fieldLink RX8 31 "BlockLog" "rows" "LBlockLog$Rows;") (by decide +kernel)) (fun _ h9 => h9) rfl dX8_sent_22 ?_
          refine lv_iload_n hx hb dX8_sent_25 rfl (lv_at hl 1 rfl) ?_
          refine vp_callSi (va_Run.run (va_runV (As := [.int p0]) (rest := []) ⟨hx, hb, hml, hown, hts⟩ (v_X4_kind l dC dI c kc st lg (rU ai 8 f8_5) al R p0 (show 0 ≤ (st 15).toInt by omega) (show (st 15).toInt ≤ 1 by omega) (by omega) (by omega) (show aR (ai 7) 8224 (-128) 127 from hR7)) (cwV 1 hts gX8_sent_X4_kind rfl rfl rfl (by decide +kernel) ⟨Nat.le_of_ble_eq_true rfl, Nat.le_of_ble_eq_true rfl⟩) ⟨fun a U g mk q => by obtain ⟨q0, qP, qK, qG⟩ := q; exact ⟨q0, qP, va_K.moved (u := U) (U := U.calling g mk a) (Vm.Alike.refl U.vm) qK, qG.same rfl⟩, va_recv hK hP (ci := 6) (q := (RX4, TX4, 6)) rfl (q0 := 4) rfl, fun U hU hW => ⟨rfl, by rw [hU]; exact hP, va_K.moved hW.alike hK, hGW.warm hW⟩⟩ rfl rfl hl.1 rfl (lv_room (Nat.le_of_ble_eq_true rfl)) dX8_sent_26 ⟨Nat.le_of_ble_eq_true rfl, Nat.le_of_ble_eq_true rfl⟩)) (fun r_7 er_7 => ?_)
          refine lv_iconst (v := 1) hx hb dX8_sent_29 (by decide) ?_
          refine lv_icmp_ne (tgt := 37) hx hb dX8_sent_30 (by decide) (fun c_8 => ?_) (fun c_8 => ?_)
          · skip
            have ic_8 := iv_ne c_8
            refine lv_iconst (v := 0) hx hb dX8_sent_37 (by decide) ?_
            refine W.widen (k := 2) (n := 12) (Nat.le_of_ble_eq_true rfl) (Nat.le_of_ble_eq_true rfl) ?_
            refine vx_ret ?_
            exact W.zret hx hb hr rfl (fun t ht hW => ⟨⟨_, _, rfl, rfl, f8_5, (by omega), (by omega), by rw [ht]; exact hP⟩, hS.F ht⟩) hS.2.2 dX8_sent_38
          · skip
            have ic_8 := iv_eq c_8
            refine lv_iconst (v := 1) hx hb dX8_sent_33 (by decide) ?_
            refine lv_goto (tgt := 38) hx hb dX8_sent_34 (by decide) ?_
            refine W.widen (k := 2) (n := 12) (Nat.le_of_ble_eq_true rfl) (Nat.le_of_ble_eq_true rfl) ?_
            refine vx_ret ?_
            exact W.zret hx hb hr rfl (fun t ht hW => ⟨⟨_, _, rfl, rfl, f8_5, (by omega), (by omega), by rw [ht]; exact hP⟩, hS.F ht⟩) hS.2.2 dX8_sent_38
  exact main s.heap [] hP hS

set_option maxHeartbeats 4000000 in
set_option maxRecDepth 100000 in
theorem v_J6_bitCount_0f7a4 (l : Launch) (dC : Nat → ClassId) (dI : Nat → Nat → Nat) (p0 : Int32)  : Met l yJ6_bitCount_0f7a4 wsJ6_bitCount_0f7a4 ({ frames := 0, cells := 0, slots := 0, locals := 0 }) (va_Pc [.int p0] (fun U => True)) (vp_Si (fun r => True)) 0 0 (fun _ => False) := by
  refine Met.ofW (cc := cJ6_bitCount_0f7a4) (maxL := 1) (ret := (some .int)) (by decide) rfl ?_
  intro p e s m args below meth cM s₁ B hml hv
  obtain ⟨rfl, -⟩ := hv
  have hx := B.exec
  have hb := B.bytes
  have hr := B.returns
  have hts := atoms_spec (ws := wsJ6_bitCount_0f7a4) B.pre
  have hown : s.vm.findClass RJ6 = some m.cls := findClass_of_methodNamed B.named
  have hl := lv_entry ([.int p0]) (n := 1) (Nat.le_of_ble_eq_true rfl)
  rw [lg_entry_eq]
  generalize (lg_sl ([.int p0]) ++ List.replicate (1 - (lg_sl ([.int p0])).length) Slot.unset).toArray = ls at hl ⊢
  have hl : lv_has ls 1 [(0, .int p0)] := hl
  have z_1 : (1 : Int32).toInt = 1 := by decide
  have z_2 : (2 : Int32).toInt = 2 := by decide
  have z_4 : (4 : Int32).toInt = 4 := by decide
  have z_8 : (8 : Int32).toInt = 8 := by decide
  have z_16 : (16 : Int32).toInt = 16 := by decide
  have z_63 : (63 : Int32).toInt = 63 := by decide
  have z_252645135 : (252645135 : Int32).toInt = 252645135 := by decide
  have z_858993459 : (858993459 : Int32).toInt = 858993459 := by decide
  have z_1431655765 : (1431655765 : Int32).toInt = 1431655765 := by decide
  refine lv_iload_n hx hb dJ6_bitCount_0f7a4_0 rfl (lv_at hl 0 rfl) ?_
  refine lv_iload_n hx hb dJ6_bitCount_0f7a4_1 rfl (lv_at hl 0 rfl) ?_
  refine lv_iconst (v := 1) hx hb dJ6_bitCount_0f7a4_2 (by decide) ?_
  refine lv_iushr hx hb dJ6_bitCount_0f7a4_3 rfl ?_
  refine lv_topi (fun v_1 ev_1 => ?_)
  clear ev_1
  refine lv_ldcw hx hb hown (hts (.constant RJ6 265 (1431655765)) (by decide +kernel)) dJ6_bitCount_0f7a4_4 ?_
  refine lv_iand hx hb dJ6_bitCount_0f7a4_7 ?_
  refine lv_topi (fun v_2 ev_2 => ?_)
  clear ev_2
  refine lv_isub hx hb dJ6_bitCount_0f7a4_8 ?_
  refine lv_topi (fun v_3 ev_3 => ?_)
  clear ev_3
  refine lv_istore_n (lv' := [(0, .int v_3)]) hx hb dJ6_bitCount_0f7a4_9 rfl hl (by decide) rfl (fun ls hl => ?_)
  refine lv_iload_n hx hb dJ6_bitCount_0f7a4_10 rfl (lv_at hl 0 rfl) ?_
  refine lv_ldcw hx hb hown (hts (.constant RJ6 266 (858993459)) (by decide +kernel)) dJ6_bitCount_0f7a4_11 ?_
  refine lv_iand hx hb dJ6_bitCount_0f7a4_14 ?_
  refine lv_topi (fun v_4 ev_4 => ?_)
  clear ev_4
  refine lv_iload_n hx hb dJ6_bitCount_0f7a4_15 rfl (lv_at hl 0 rfl) ?_
  refine lv_iconst (v := 2) hx hb dJ6_bitCount_0f7a4_16 (by decide) ?_
  refine lv_iushr hx hb dJ6_bitCount_0f7a4_17 rfl ?_
  refine lv_topi (fun v_5 ev_5 => ?_)
  clear ev_5
  refine lv_ldcw hx hb hown (hts (.constant RJ6 266 (858993459)) (by decide +kernel)) dJ6_bitCount_0f7a4_18 ?_
  refine lv_iand hx hb dJ6_bitCount_0f7a4_21 ?_
  refine lv_topi (fun v_6 ev_6 => ?_)
  clear ev_6
  refine lv_iadd hx hb dJ6_bitCount_0f7a4_22 ?_
  refine lv_topi (fun v_7 ev_7 => ?_)
  clear ev_7
  refine lv_istore_n (lv' := [(0, .int v_7)]) hx hb dJ6_bitCount_0f7a4_23 rfl hl (by decide) rfl (fun ls hl => ?_)
  refine lv_iload_n hx hb dJ6_bitCount_0f7a4_24 rfl (lv_at hl 0 rfl) ?_
  refine lv_iload_n hx hb dJ6_bitCount_0f7a4_25 rfl (lv_at hl 0 rfl) ?_
  refine lv_iconst (v := 4) hx hb dJ6_bitCount_0f7a4_26 (by decide) ?_
  refine lv_iushr hx hb dJ6_bitCount_0f7a4_27 rfl ?_
  refine lv_topi (fun v_8 ev_8 => ?_)
  clear ev_8
  refine lv_iadd hx hb dJ6_bitCount_0f7a4_28 ?_
  refine lv_topi (fun v_9 ev_9 => ?_)
  clear ev_9
  refine lv_ldcw hx hb hown (hts (.constant RJ6 267 (252645135)) (by decide +kernel)) dJ6_bitCount_0f7a4_29 ?_
  refine lv_iand hx hb dJ6_bitCount_0f7a4_32 ?_
  refine lv_topi (fun v_10 ev_10 => ?_)
  clear ev_10
  refine lv_istore_n (lv' := [(0, .int v_10)]) hx hb dJ6_bitCount_0f7a4_33 rfl hl (by decide) rfl (fun ls hl => ?_)
  refine lv_iload_n hx hb dJ6_bitCount_0f7a4_34 rfl (lv_at hl 0 rfl) ?_
  refine lv_iload_n hx hb dJ6_bitCount_0f7a4_35 rfl (lv_at hl 0 rfl) ?_
  refine lv_bipush (v := 8) hx hb dJ6_bitCount_0f7a4_36 (by decide) ?_
  refine lv_iushr hx hb dJ6_bitCount_0f7a4_38 rfl ?_
  refine lv_topi (fun v_11 ev_11 => ?_)
  clear ev_11
  refine lv_iadd hx hb dJ6_bitCount_0f7a4_39 ?_
  refine lv_topi (fun v_12 ev_12 => ?_)
  clear ev_12
  refine lv_istore_n (lv' := [(0, .int v_12)]) hx hb dJ6_bitCount_0f7a4_40 rfl hl (by decide) rfl (fun ls hl => ?_)
  refine lv_iload_n hx hb dJ6_bitCount_0f7a4_41 rfl (lv_at hl 0 rfl) ?_
  refine lv_iload_n hx hb dJ6_bitCount_0f7a4_42 rfl (lv_at hl 0 rfl) ?_
  refine lv_bipush (v := 16) hx hb dJ6_bitCount_0f7a4_43 (by decide) ?_
  refine lv_iushr hx hb dJ6_bitCount_0f7a4_45 rfl ?_
  refine lv_topi (fun v_13 ev_13 => ?_)
  clear ev_13
  refine lv_iadd hx hb dJ6_bitCount_0f7a4_46 ?_
  refine lv_topi (fun v_14 ev_14 => ?_)
  clear ev_14
  refine lv_istore_n (lv' := [(0, .int v_14)]) hx hb dJ6_bitCount_0f7a4_47 rfl hl (by decide) rfl (fun ls hl => ?_)
  refine lv_iload_n hx hb dJ6_bitCount_0f7a4_48 rfl (lv_at hl 0 rfl) ?_
  refine lv_bipush (v := 63) hx hb dJ6_bitCount_0f7a4_49 (by decide) ?_
  refine lv_iand hx hb dJ6_bitCount_0f7a4_51 ?_
  refine lv_topi (fun v_15 ev_15 => ?_)
  clear ev_15
  exact W.iret hx hb hr (fun t ht hW => ⟨_, rfl, trivial, ht⟩) (fun q h => by cases h) dJ6_bitCount_0f7a4_52

set_option maxHeartbeats 4000000 in
set_option maxRecDepth 100000 in
theorem v_X8_certify (l : Launch) (hl0 : l.stackTraces = false) (dC : Nat → ClassId) (dI : Nat → Nat → Nat) (c : Nat → Nat) (kc : Nat → ClassId) (st : Nat → Int32) (lg : Nat → Int64) (ai : Nat → Nat → Int32) (al : Nat → Nat → Int64) (R : va_W) (p0 : Int64) (p1 : Int32) (sz : Nat) (hf9a : 0 ≤ (st 9).toInt) (hf9b : (st 9).toInt ≤ 1) (hf15a : 0 ≤ (st 15).toInt) (hf15b : (st 15).toInt ≤ 1) (hf17a : 0 ≤ (st 17).toInt) (hf17b : (st 17).toInt ≤ 128) (hf25a : 0 ≤ (st 25).toInt) (hf25b : (st 25).toInt ≤ 128) (hf26a : 0 ≤ (st 26).toInt) (hf26b : (st 26).toInt ≤ 128) (hf27a : -1 ≤ (st 27).toInt) (hf27b : (st 27).toInt ≤ 127) (hf28a : 0 ≤ (st 28).toInt) (hf28b : (st 28).toInt ≤ 1) (hR7 : aR (ai 7) 8224 (-128) 127) (hR23 : aR (ai 23) 128 (0) 127) : vx_Met l yX8_certify wsX8_certify ({ frames := 7, cells := 2, slots := 12, locals := 148 }) (va_Pc [.ref (c 100), .long p0, .int p1] (fun U => U.heap.size = sz ∧ va_P (dC, dI) vwCl (cw_W c kc st lg ai al R) U.heap ∧ va_K (dC, dI) vwCl (cw_T kc) U ∧ va_D (fun _ => True) (cw_W c kc st lg ai al R) ∧ gx_E (va_A (cw_W c kc st lg ai al R) sz) U)) (va_Qi (fun r (u : Int32) => r = u) (fun u t => ∃ (x9 : Int32) (x10 : Int32) (x11 : Int32) (x17 : Int32) (x25 : Int32) (x26 : Int32) (x27 : Int32) (x28 : Int32) (x29 : Int32) (f7 : Nat → Int32) (f8 : Nat → Int32) (f14 : Nat → Int32) (f20 : Nat → Int32) (f21 : Nat → Int32) (f22 : Nat → Int32) (f23 : Nat → Int32) (g19 : Nat → Int64), (0 ≤ x9.toInt) ∧ (x9.toInt ≤ 1) ∧ (0 ≤ x17.toInt) ∧ (x17.toInt ≤ 128) ∧ (0 ≤ x25.toInt) ∧ (x25.toInt ≤ 128) ∧ (0 ≤ x26.toInt) ∧ (x26.toInt ≤ 128) ∧ (-1 ≤ x27.toInt) ∧ (x27.toInt ≤ 127) ∧ (0 ≤ x28.toInt) ∧ (x28.toInt ≤ 1) ∧ (aR f7 8224 (-128) 127) ∧ (aR f23 128 (0) 127) ∧ va_P (dC, dI) vwCl (cw_W c kc (rU (rU (rU (rU (rU (rU (rU (rU (rU st 9 x9) 10 x10) 11 x11) 17 x17) 25 x25) 26 x26) 27 x27) 28 x28) 29 x29) lg (rU (rU (rU (rU (rU (rU (rU ai 7 f7) 8 f8) 14 f14) 20 f20) 21 f21) 22 f22) 23 f23) (rU al 19 g19) R) t.heap) (va_A (cw_W c kc st lg ai al R) sz)) (vx_X (fun _ : Unit => True) (fun E _ t => E ∈ (["java/lang/IllegalArgumentException", "java/lang/IllegalStateException"] : List String) ∧ ∃ (x9 : Int32) (x10 : Int32) (x11 : Int32) (x17 : Int32) (x25 : Int32) (x26 : Int32) (x27 : Int32) (x28 : Int32) (x29 : Int32) (f7 : Nat → Int32) (f8 : Nat → Int32) (f14 : Nat → Int32) (f20 : Nat → Int32) (f21 : Nat → Int32) (f22 : Nat → Int32) (f23 : Nat → Int32) (g19 : Nat → Int64), (0 ≤ x9.toInt) ∧ (x9.toInt ≤ 1) ∧ (0 ≤ x17.toInt) ∧ (x17.toInt ≤ 128) ∧ (0 ≤ x25.toInt) ∧ (x25.toInt ≤ 128) ∧ (0 ≤ x26.toInt) ∧ (x26.toInt ≤ 128) ∧ (-1 ≤ x27.toInt) ∧ (x27.toInt ≤ 127) ∧ (0 ≤ x28.toInt) ∧ (x28.toInt ≤ 1) ∧ (aR f7 8224 (-128) 127) ∧ (aR f23 128 (0) 127) ∧ va_P (dC, dI) vwCl (cw_W c kc (rU (rU (rU (rU (rU (rU (rU (rU (rU st 9 x9) 10 x10) 11 x11) 17 x17) 25 x25) 26 x26) 27 x27) 28 x28) 29 x29) lg (rU (rU (rU (rU (rU (rU (rU ai 7 f7) 8 f8) 14 f14) 20 f20) 21 f21) 22 f22) 23 f23) (rU al 19 g19) R) t.heap) (va_A (cw_W c kc st lg ai al R) sz)) 2 12 (va_A (cw_W c kc st lg ai al R) sz) := by
  refine vx_ofW (cc := cX8_certify) (maxL := 8) (ret := (some .int)) (by decide) rfl ?_
  intro p e s m args below meth cM s₁ B hml hno hv
  obtain ⟨rfl, hsz, hP, hK, hD0, hG⟩ := hv
  have hx := B.exec
  have hb := B.bytes
  have hr := B.returns
  have hts := atoms_spec (ws := wsX8_certify) B.pre
  have hown : s.vm.findClass RX8 = some m.cls := findClass_of_methodNamed B.named
  have hGW := hG.1
  have hlocks := B.notSynchronized
  subst hsz
  have hD := hD0.self (sz := s.heap.size)
  generalize hAe : va_A (cw_W c kc st lg ai al R) s.heap.size = A at hD hG ⊢
  have hA : ∀ q : Nat, s.heap.size ≤ q → A q := fun q h => by rw [← hAe]; exact Or.inr h
  have hS : va_S A s.heap s.heap [] := va_S.rf
  clear hAe hD0
  have hl := lv_entry ([.ref (c 100), .long p0, .int p1]) (n := 8) (Nat.le_of_ble_eq_true rfl)
  rw [lg_entry_eq]
  generalize (lg_sl ([.ref (c 100), .long p0, .int p1]) ++ List.replicate (8 - (lg_sl ([.ref (c 100), .long p0, .int p1])).length) Slot.unset).toArray = ls at hl ⊢
  have hl : lv_has ls 8 [(0, .ref (c 100)), (1, .long p0), (3, .int p1)] := hl
  have z_m9 : (-9 : Int32).toInt = -9 := by decide
  have z_m8 : (-8 : Int32).toInt = -8 := by decide
  have z_m6 : (-6 : Int32).toInt = -6 := by decide
  have z_m4 : (-4 : Int32).toInt = -4 := by decide
  have z_m3 : (-3 : Int32).toInt = -3 := by decide
  have z_m2 : (-2 : Int32).toInt = -2 := by decide
  have z_m1 : (-1 : Int32).toInt = -1 := by decide
  have z_0 : (0 : Int32).toInt = 0 := by decide
  have z_1 : (1 : Int32).toInt = 1 := by decide
  have z_3 : (3 : Int32).toInt = 3 := by decide
  have z_4 : (4 : Int32).toInt = 4 := by decide
  have z_15 : (15 : Int32).toInt = 15 := by decide
  have z_128 : (128 : Int32).toInt = 128 := by decide
  have hin_X4 : ∀ w ∈ u_ws RX4 TX4 6, w ∈ wsX8_certify := by decide +kernel
  have hin_X8 : ∀ w ∈ u_ws RX8 TX8 10, w ∈ wsX8_certify := by decide +kernel
  have main : ∀ (H : Heap) (locs : List Loc), va_P (dC, dI) vwCl (cw_W c kc st lg ai al R) H → va_S A s.heap H locs → W p l e (headSpec wsX8_certify ({ frames := 7, cells := 2, slots := 12, locals := 148 })).room s m ([.ref (c 100), .long p0, .int p1] : List Value).toArray below meth cM H locs 0 0 (vx_MQ below (va_Qi (fun r (u : Int32) => r = u) (fun u t => ∃ (x9 : Int32) (x10 : Int32) (x11 : Int32) (x17 : Int32) (x25 : Int32) (x26 : Int32) (x27 : Int32) (x28 : Int32) (x29 : Int32) (f7 : Nat → Int32) (f8 : Nat → Int32) (f14 : Nat → Int32) (f20 : Nat → Int32) (f21 : Nat → Int32) (f22 : Nat → Int32) (f23 : Nat → Int32) (g19 : Nat → Int64), (0 ≤ x9.toInt) ∧ (x9.toInt ≤ 1) ∧ (0 ≤ x17.toInt) ∧ (x17.toInt ≤ 128) ∧ (0 ≤ x25.toInt) ∧ (x25.toInt ≤ 128) ∧ (0 ≤ x26.toInt) ∧ (x26.toInt ≤ 128) ∧ (-1 ≤ x27.toInt) ∧ (x27.toInt ≤ 127) ∧ (0 ≤ x28.toInt) ∧ (x28.toInt ≤ 1) ∧ (aR f7 8224 (-128) 127) ∧ (aR f23 128 (0) 127) ∧ va_P (dC, dI) vwCl (cw_W c kc (rU (rU (rU (rU (rU (rU (rU (rU (rU st 9 x9) 10 x10) 11 x11) 17 x17) 25 x25) 26 x26) 27 x27) 28 x28) 29 x29) lg (rU (rU (rU (rU (rU (rU (rU ai 7 f7) 8 f8) 14 f14) 20 f20) 21 f21) 22 f22) 23 f23) (rU al 19 g19) R) t.heap) A) (vx_X (fun _ : Unit => True) (fun E _ t => E ∈ (["java/lang/IllegalArgumentException", "java/lang/IllegalStateException"] : List String) ∧ ∃ (x9 : Int32) (x10 : Int32) (x11 : Int32) (x17 : Int32) (x25 : Int32) (x26 : Int32) (x27 : Int32) (x28 : Int32) (x29 : Int32) (f7 : Nat → Int32) (f8 : Nat → Int32) (f14 : Nat → Int32) (f20 : Nat → Int32) (f21 : Nat → Int32) (f22 : Nat → Int32) (f23 : Nat → Int32) (g19 : Nat → Int64), (0 ≤ x9.toInt) ∧ (x9.toInt ≤ 1) ∧ (0 ≤ x17.toInt) ∧ (x17.toInt ≤ 128) ∧ (0 ≤ x25.toInt) ∧ (x25.toInt ≤ 128) ∧ (0 ≤ x26.toInt) ∧ (x26.toInt ≤ 128) ∧ (-1 ≤ x27.toInt) ∧ (x27.toInt ≤ 127) ∧ (0 ≤ x28.toInt) ∧ (x28.toInt ≤ 1) ∧ (aR f7 8224 (-128) 127) ∧ (aR f23 128 (0) 127) ∧ va_P (dC, dI) vwCl (cw_W c kc (rU (rU (rU (rU (rU (rU (rU (rU (rU st 9 x9) 10 x10) 11 x11) 17 x17) 25 x25) 26 x26) 27 x27) 28 x28) 29 x29) lg (rU (rU (rU (rU (rU (rU (rU ai 7 f7) 8 f8) 14 f14) 20 f20) 21 f21) 22 f22) 23 f23) (rU al 19 g19) R) t.heap) A) ([.ref (c 100), .long p0, .int p1] : List Value).toArray s 2 12 A) (F0 m 0 ls []) := by
    intro H locs hP hS
    refine lv_aload_n hx hb dX8_certify_0 rfl (lv_at hl 0 rfl) ?_
    have hFc := vfree ((cw_D hD : va_D A (cw_W c kc st lg ai al R)) : va_D A (cw_W c kc st lg ai al R)) hS hA
    refine vx_callv (vx_runV (As := []) (rest := []) ⟨hx, hb, hml, hown, hts⟩ (v_X8_demandPower l hl0 dC dI c kc st lg ai al R  _ (show 0 ≤ (st 9).toInt by omega) (show (st 9).toInt ≤ 1 by omega)) (cwV 0 hts gX8_certify_X8_demandPower rfl rfl rfl (by decide +kernel) ⟨Nat.le_of_ble_eq_true rfl, Nat.le_of_ble_eq_true rfl⟩) ⟨fun a U g mk q => by obtain ⟨q0, q1, qP, qK, qD, qG⟩ := q; exact ⟨q0, q1, qP, va_K.moved (u := U) (U := U.calling g mk a) (Vm.Alike.refl U.vm) qK, qD, qG.same rfl rfl⟩, va_recv hK hP (ci := 10) (q := (RX8, TX8, 10)) rfl (q0 := 0) rfl, fun U hU hW => ⟨rfl, by rw [hU], by rw [hU]; exact hP, va_K.moved hW.alike hK, ((cw_D hD : va_D A (cw_W c kc st lg ai al R))).weaken (fun _ _ _ _ => trivial), hG.go hW hU hS hFc⟩⟩ rfl rfl hl.1 rfl (lv_room (Nat.le_of_ble_eq_true rfl)) dX8_certify_1 ⟨Nat.le_of_ble_eq_true rfl, Nat.le_of_ble_eq_true rfl⟩) hS (fun q _ h => hFc q h) hFc (fun q _ h => hFc q h) (fun E9 ce q9 u t H1 locs ht hvm hp hE hz hk hS hcell hv hcl => ?_) (fun ur_1 t H1 locs ht hvm er_1 hB hz1 hk1 hS => ?_)
    · skip
      obtain ⟨hE, hP1⟩ := hE
      rw [ht] at hP1
      have hP : va_P (dC, dI) vwCl (cw_W c kc st lg ai al R) H1 := hP1
      exact vx_out (fun x h => (hno x h).elim) hlocks hcell hv hcl (fun t ht hW => ⟨(), trivial, ⟨(show ∀ x ∈ (["java/lang/IllegalStateException"] : List String), x ∈ (["java/lang/IllegalArgumentException", "java/lang/IllegalStateException"] : List String) by decide +kernel) _ hE, st 9, st 10, st 11, st 17, st 25, st 26, st 27, st 28, st 29, ai 7, ai 8, ai 14, ai 20, ai 21, ai 22, ai 23, al 19, (by omega), (by omega), (by omega), (by omega), (by omega), (by omega), (by omega), (by omega), (by omega), (by omega), (by omega), (by omega), hR7, hR23, by rw [ht]; exact hP⟩, hS.F ht⟩) hS.2.2 (Nat.le_of_ble_eq_true rfl) (Nat.le_of_ble_eq_true rfl)
    · skip
      have hP1 : va_P (dC, dI) vwCl (cw_W c kc st lg ai al R) t.heap := hB
      rw [ht] at hP1
      clear hFc hz1 hk1 hvm hP
      subst ht
      have hP := hP1
      clear hP1
      generalize t.heap = H at hP hS ⊢
      have hP : va_P (dC, dI) vwCl (cw_W c kc st lg ai al R) H := hP
      refine lv_iload_n hx hb dX8_certify_4 rfl (lv_at hl 2 rfl) ?_
      refine lv_if_lt (tgt := 14) hx hb dX8_certify_5 (by decide) (fun c_2 => ?_) (fun c_2 => ?_)
      · skip
        have ic_2 := iv_lt c_2
        obtain ⟨sa, hstr⟩ := hGW.2.1 ("BlockLog", 188, "signers is not 0 .. 15") (by decide +kernel)
        exact vx_throwS (names := ["java/lang/RuntimeException", "java/lang/Exception"]) hx hb hl0 hown (by decide +kernel) (by decide +kernel) (hts (.classLink RX8 76 "java/lang/IllegalArgumentException") (by decide +kernel)) (hts (.initialized "java/lang/IllegalArgumentException") (by decide +kernel)) hstr (vx_hat (B := gx_bad "java/lang/IllegalArgumentException") (fun w h => hts w (List.mem_cons_of_mem _ (List.mem_append_left _ (List.mem_append_right _ h)))) (by decide +kernel) (hGW.bad (by decide))) (by decide +kernel) hG.2.1 hG.2.2.1 hS (hl.1.trans hml.symm) dX8_certify_14 dX8_certify_17 dX8_certify_18 dX8_certify_20 dX8_certify_23 (fun x h => (hno x h).elim) (Nat.le_of_ble_eq_true rfl) (Nat.le_of_ble_eq_true rfl) (Nat.le_of_ble_eq_true rfl) (Nat.le_of_ble_eq_true rfl) hlocks (fun t _ h1 h2 => ⟨(), trivial, ⟨(by decide +kernel), st 9, st 10, st 11, st 17, st 25, st 26, st 27, st 28, st 29, ai 7, ai 8, ai 14, ai 20, ai 21, ai 22, ai 23, al 19, (by omega), (by omega), (by omega), (by omega), (by omega), (by omega), (by omega), (by omega), (by omega), (by omega), (by omega), (by omega), hR7, hR23, hP.kept (fun k q hk => h2 _ (hP k q hk).lt)⟩, Nat.le_trans hS.1 h1, fun q hq hn => (h2 q (Nat.lt_of_lt_of_le hq hS.1)).trans (hS.2.1 q hq hn)⟩) hS.2.2 (Nat.le_of_ble_eq_true rfl) (Nat.le_of_ble_eq_true rfl)
      · skip
        have ic_2 := iv_nlt c_2
        refine lv_iload_n hx hb dX8_certify_8 rfl (lv_at hl 2 rfl) ?_
        refine lv_bipush (v := 15) hx hb dX8_certify_9 (by decide) ?_
        refine lv_icmp_le (tgt := 24) hx hb dX8_certify_11 (by decide) (fun c_3 => ?_) (fun c_3 => ?_)
        · skip
          have ic_3 := iv_le c_3
          refine lv_aload_n hx hb dX8_certify_24 rfl (lv_at hl 0 rfl) ?_
          refine va_get (D := (dC, dI)) (ci := 10) (v := .ref (c 104)) (C := RX8) (T := TX8) (N := 10) hx hb hts hin_X8 hown hK hP 0 rfl rfl 2 (by decide) (hts (.fieldLink RX8 31 "BlockLog" "rows" "LBlockLog$Rows;") (by decide +kernel)) (fun _ h9 => h9) rfl dX8_certify_25 ?_
          refine vp_callSi (va_Run.run (va_runV (As := []) (rest := []) ⟨hx, hb, hml, hown, hts⟩ (v_X4_inNeed l dC dI c kc st lg ai al R  ) (cwV 0 hts gX8_certify_X4_inNeed rfl rfl rfl (by decide +kernel) ⟨Nat.le_of_ble_eq_true rfl, Nat.le_of_ble_eq_true rfl⟩) ⟨fun a U g mk q => by obtain ⟨q0, qP, qK⟩ := q; exact ⟨q0, qP, va_K.moved (u := U) (U := U.calling g mk a) (Vm.Alike.refl U.vm) qK⟩, va_recv hK hP (ci := 6) (q := (RX4, TX4, 6)) rfl (q0 := 4) rfl, fun U hU hW => ⟨rfl, by rw [hU]; exact hP, va_K.moved hW.alike hK⟩⟩ rfl rfl hl.1 rfl (lv_room (Nat.le_of_ble_eq_true rfl)) dX8_certify_28 ⟨Nat.le_of_ble_eq_true rfl, Nat.le_of_ble_eq_true rfl⟩)) (fun r_4 er_4 => ?_)
          obtain ⟨k_5, k_6⟩ := er_4
          rcases iv_01 (a := r_4) (by omega) (by omega) with b_7 | b_7
          · skip
            have ib_7 := iv_eq b_7
            rw [b_7]
            refine lv_if_eq (tgt := 37) hx hb dX8_certify_31 (by decide) (fun c_8 => ?_) (fun c_8 => ?_)
            · skip
              have ic_8 := iv_eq c_8
              refine lv_aload_n hx hb dX8_certify_37 rfl (lv_at hl 0 rfl) ?_
              refine va_get (D := (dC, dI)) (ci := 10) (v := .ref (c 105)) (C := RX8) (T := TX8) (N := 10) hx hb hts hin_X8 hown hK hP 0 rfl rfl 3 (by decide) (hts (.fieldLink RX8 40 "BlockLog" "story" "LBlockLog$Story;") (by decide +kernel)) (fun _ h9 => h9) rfl dX8_certify_38 ?_
              refine lv_lload_n hx hb dX8_certify_41 rfl (lv_at hl 1 rfl) ?_
              refine vp_callSl (va_Run.run (va_runV (As := [.long p0]) (rest := []) ⟨hx, hb, hml, hown, hts⟩ (v_X6_meant l dC dI c kc st lg ai al R p0 (show 0 ≤ (st 25).toInt by omega) (show (st 25).toInt ≤ 128 by omega)) (cwV 1 hts gX8_certify_X6_meant rfl rfl rfl (by decide +kernel) ⟨Nat.le_of_ble_eq_true rfl, Nat.le_of_ble_eq_true rfl⟩) ⟨fun a U g mk q => by obtain ⟨q0, qP, qK⟩ := q; exact ⟨q0, qP, va_K.moved (u := U) (U := U.calling g mk a) (Vm.Alike.refl U.vm) qK⟩, va_recv hK hP (ci := 8) (q := (RX6, TX6, 12)) rfl (q0 := 5) rfl, fun U hU hW => ⟨rfl, by rw [hU]; exact hP, va_K.moved hW.alike hK⟩⟩ rfl rfl hl.1 rfl (lv_room (Nat.le_of_ble_eq_true rfl)) dX8_certify_42 ⟨Nat.le_of_ble_eq_true rfl, Nat.le_of_ble_eq_true rfl⟩)) (fun r_9 er_9 => ?_)
              refine lv_lstore (lv' := [(4, .long r_9), (0, .ref (c 100)), (1, .long p0), (3, .int p1)]) hx hb dX8_certify_45 hl (by decide) rfl (fun ls hl => ?_)
              refine lv_aload_n hx hb dX8_certify_47 rfl (lv_at hl 1 rfl) ?_
              refine va_get (D := (dC, dI)) (ci := 10) (v := .ref (c 105)) (C := RX8) (T := TX8) (N := 10) hx hb hts hin_X8 hown hK hP 0 rfl rfl 3 (by decide) (hts (.fieldLink RX8 40 "BlockLog" "story" "LBlockLog$Story;") (by decide +kernel)) (fun _ h9 => h9) rfl dX8_certify_48 ?_
              refine lv_lload hx hb dX8_certify_51 (lv_at hl 0 rfl) ?_
              refine vp_callSi (va_Run.run (va_runV (As := [.long r_9]) (rest := []) ⟨hx, hb, hml, hown, hts⟩ (v_X6_blockRow l dC dI c kc st lg ai al R r_9 (show 0 ≤ (st 25).toInt by omega) (show (st 25).toInt ≤ 128 by omega)) (cwV 1 hts gX8_certify_X6_blockRow rfl rfl rfl (by decide +kernel) ⟨Nat.le_of_ble_eq_true rfl, Nat.le_of_ble_eq_true rfl⟩) ⟨fun a U g mk q => by obtain ⟨q0, qP, qK⟩ := q; exact ⟨q0, qP, va_K.moved (u := U) (U := U.calling g mk a) (Vm.Alike.refl U.vm) qK⟩, va_recv hK hP (ci := 8) (q := (RX6, TX6, 12)) rfl (q0 := 5) rfl, fun U hU hW => ⟨rfl, by rw [hU]; exact hP, va_K.moved hW.alike hK⟩⟩ rfl rfl hl.1 rfl (lv_room (Nat.le_of_ble_eq_true rfl)) dX8_certify_53 ⟨Nat.le_of_ble_eq_true rfl, Nat.le_of_ble_eq_true rfl⟩)) (fun r_10 er_10 => ?_)
              obtain ⟨k_11, k_12⟩ := er_10
              have k_12 : r_10.toInt < (st 25).toInt := k_12
              refine lv_istore (lv' := [(6, .int r_10), (4, .long r_9), (0, .ref (c 100)), (1, .long p0), (3, .int p1)]) hx hb dX8_certify_56 hl (by decide) rfl (fun ls hl => ?_)
              refine lv_iload hx hb dX8_certify_58 (lv_at hl 0 rfl) ?_
              refine lv_iconst (v := (-1)) hx hb dX8_certify_60 (by decide) ?_
              refine lv_icmp_ne (tgt := 67) hx hb dX8_certify_61 (by decide) (fun c_13 => ?_) (fun c_13 => ?_)
              · skip
                have ic_13 := iv_ne c_13
                refine lv_iload_n hx hb dX8_certify_67 rfl (lv_at hl 4 rfl) ?_
                refine vp_callSi (va_Run.run (va_runS (As := [.int p1]) (rest := []) ⟨hx, hb, hml, hown, hts⟩ (v_J6_bitCount_0f7a4 l dC dI p1 ) (va_cwS 1 hts gX8_certify_J6_bitCount_0f7a4 rfl rfl rfl (by decide +kernel) ⟨Nat.le_of_ble_eq_true rfl, Nat.le_of_ble_eq_true rfl⟩) ⟨fun a U g mk q => q, fun U hU hW => ⟨rfl, trivial⟩⟩ rfl rfl hl.1 rfl (lv_room (Nat.le_of_ble_eq_true rfl)) dX8_certify_68 ⟨Nat.le_of_ble_eq_true rfl, Nat.le_of_ble_eq_true rfl⟩)) (fun r_14 er_14 => ?_)
                refine lv_iconst (v := 3) hx hb dX8_certify_71 (by decide) ?_
                refine lv_icmp_ge (tgt := 78) hx hb dX8_certify_72 (by decide) (fun c_15 => ?_) (fun c_15 => ?_)
                · skip
                  have ic_15 := iv_le c_15
                  refine lv_aload_n hx hb dX8_certify_78 rfl (lv_at hl 2 rfl) ?_
                  refine va_get (D := (dC, dI)) (ci := 10) (v := .ref (c 104)) (C := RX8) (T := TX8) (N := 10) hx hb hts hin_X8 hown hK hP 0 rfl rfl 2 (by decide) (hts (.fieldLink RX8 31 "BlockLog" "rows" "LBlockLog$Rows;") (by decide +kernel)) (fun _ h9 => h9) rfl dX8_certify_79 ?_
                  refine lv_iload hx hb dX8_certify_82 (lv_at hl 0 rfl) ?_
                  refine vp_callSi (va_Run.run (va_runV (As := [.int r_10]) (rest := []) ⟨hx, hb, hml, hown, hts⟩ (v_X4_a l dC dI c kc st lg ai al R r_10 (show 0 ≤ (st 15).toInt by omega) (show (st 15).toInt ≤ 1 by omega) (by omega) (by omega)) (cwV 1 hts gX8_certify_X4_a rfl rfl rfl (by decide +kernel) ⟨Nat.le_of_ble_eq_true rfl, Nat.le_of_ble_eq_true rfl⟩) ⟨fun a U g mk q => by obtain ⟨q0, qP, qK, qG⟩ := q; exact ⟨q0, qP, va_K.moved (u := U) (U := U.calling g mk a) (Vm.Alike.refl U.vm) qK, qG.same rfl⟩, va_recv hK hP (ci := 6) (q := (RX4, TX4, 6)) rfl (q0 := 4) rfl, fun U hU hW => ⟨rfl, by rw [hU]; exact hP, va_K.moved hW.alike hK, hGW.warm hW⟩⟩ rfl rfl hl.1 rfl (lv_room (Nat.le_of_ble_eq_true rfl)) dX8_certify_84 ⟨Nat.le_of_ble_eq_true rfl, Nat.le_of_ble_eq_true rfl⟩)) (fun r_16 er_16 => ?_)
                  refine lv_istore (lv' := [(7, .int r_16), (6, .int r_10), (4, .long r_9), (0, .ref (c 100)), (1, .long p0), (3, .int p1)]) hx hb dX8_certify_87 hl (by decide) rfl (fun ls hl => ?_)
                  refine lv_aload_n hx hb dX8_certify_89 rfl (lv_at hl 3 rfl) ?_
                  refine va_get (D := (dC, dI)) (ci := 10) (v := .ref (c 105)) (C := RX8) (T := TX8) (N := 10) hx hb hts hin_X8 hown hK hP 0 rfl rfl 3 (by decide) (hts (.fieldLink RX8 40 "BlockLog" "story" "LBlockLog$Story;") (by decide +kernel)) (fun _ h9 => h9) rfl dX8_certify_90 ?_
                  refine lv_iload hx hb dX8_certify_93 (lv_at hl 1 rfl) ?_
                  refine vp_callSi (va_Run.run (va_runV (As := [.int r_10]) (rest := []) ⟨hx, hb, hml, hown, hts⟩ (v_X6_isCertified l dC dI c kc st lg ai al R r_10 (show 0 ≤ (st 26).toInt by omega) (show (st 26).toInt ≤ 128 by omega) (show aR (ai 23) 128 (0) 127 from hR23)) (cwV 1 hts gX8_certify_X6_isCertified rfl rfl rfl (by decide +kernel) ⟨Nat.le_of_ble_eq_true rfl, Nat.le_of_ble_eq_true rfl⟩) ⟨fun a U g mk q => by obtain ⟨q0, qP, qK⟩ := q; exact ⟨q0, qP, va_K.moved (u := U) (U := U.calling g mk a) (Vm.Alike.refl U.vm) qK⟩, va_recv hK hP (ci := 8) (q := (RX6, TX6, 12)) rfl (q0 := 5) rfl, fun U hU hW => ⟨rfl, by rw [hU]; exact hP, va_K.moved hW.alike hK⟩⟩ rfl rfl hl.1 rfl (lv_room (Nat.le_of_ble_eq_true rfl)) dX8_certify_95 ⟨Nat.le_of_ble_eq_true rfl, Nat.le_of_ble_eq_true rfl⟩)) (fun r_17 er_17 => ?_)
                  obtain ⟨k_18, k_19⟩ := er_17
                  rcases iv_01 (a := r_17) (by omega) (by omega) with b_20 | b_20
                  · skip
                    have ib_20 := iv_eq b_20
                    rw [b_20]
                    refine lv_if_eq (tgt := 104) hx hb dX8_certify_98 (by decide) (fun c_21 => ?_) (fun c_21 => ?_)
                    · skip
                      have ic_21 := iv_eq c_21
                      refine lv_aload_n hx hb dX8_certify_104 rfl (lv_at hl 3 rfl) ?_
                      refine va_get (D := (dC, dI)) (ci := 10) (v := .ref (c 105)) (C := RX8) (T := TX8) (N := 10) hx hb hts hin_X8 hown hK hP 0 rfl rfl 3 (by decide) (hts (.fieldLink RX8 40 "BlockLog" "story" "LBlockLog$Story;") (by decide +kernel)) (fun _ h9 => h9) rfl dX8_certify_105 ?_
                      refine lv_iload hx hb dX8_certify_108 (lv_at hl 1 rfl) ?_
                      refine vp_callSi (va_Run.run (va_runV (As := [.int r_10]) (rest := []) ⟨hx, hb, hml, hown, hts⟩ (v_X6_isNext l dC dI c kc st lg ai al R r_10 (show 0 ≤ (st 15).toInt by omega) (show (st 15).toInt ≤ 1 by omega) (show 0 ≤ (st 26).toInt by omega) (show (st 26).toInt ≤ 128 by omega) (show 0 ≤ (st 28).toInt by omega) (show (st 28).toInt ≤ 1 by omega) (by omega) (by omega) (show aR (ai 23) 128 (0) 127 from hR23)) (cwV 1 hts gX8_certify_X6_isNext rfl rfl rfl (by decide +kernel) ⟨Nat.le_of_ble_eq_true rfl, Nat.le_of_ble_eq_true rfl⟩) ⟨fun a U g mk q => by obtain ⟨q0, qP, qK, qG⟩ := q; exact ⟨q0, qP, va_K.moved (u := U) (U := U.calling g mk a) (Vm.Alike.refl U.vm) qK, qG.same rfl⟩, va_recv hK hP (ci := 8) (q := (RX6, TX6, 12)) rfl (q0 := 5) rfl, fun U hU hW => ⟨rfl, by rw [hU]; exact hP, va_K.moved hW.alike hK, hGW.warm hW⟩⟩ rfl rfl hl.1 rfl (lv_room (Nat.le_of_ble_eq_true rfl)) dX8_certify_110 ⟨Nat.le_of_ble_eq_true rfl, Nat.le_of_ble_eq_true rfl⟩)) (fun r_22 er_22 => ?_)
                      obtain ⟨k_23, k_24⟩ := er_22
                      rcases iv_01 (a := r_22) (by omega) (by omega) with b_25 | b_25
                      · skip
                        have ib_25 := iv_eq b_25
                        rw [b_25]
                        refine lv_if_ne (tgt := 119) hx hb dX8_certify_113 (by decide) (fun c_26 => ?_) (fun c_26 => ?_)
                        · skip
                          have ic_26 := iv_ne c_26
                          exfalso
                          omega
                        · skip
                          have ic_26 := iv_eq c_26
                          refine lv_bipush (v := (-9)) hx hb dX8_certify_116 (by decide) ?_
                          refine W.widen (k := 2) (n := 12) (Nat.le_of_ble_eq_true rfl) (Nat.le_of_ble_eq_true rfl) ?_
                          refine vx_ret ?_
                          exact W.iret hx hb hr (fun t ht hW => ⟨⟨_, _, rfl, rfl, st 9, st 10, st 11, st 17, st 25, st 26, st 27, st 28, st 29, ai 7, ai 8, ai 14, ai 20, ai 21, ai 22, ai 23, al 19, (by omega), (by omega), (by omega), (by omega), (by omega), (by omega), (by omega), (by omega), (by omega), (by omega), (by omega), (by omega), hR7, hR23, by rw [ht]; exact hP⟩, hS.F ht⟩) hS.2.2 dX8_certify_118
                      · skip
                        have ib_25 := iv_eq b_25
                        rw [b_25]
                        refine lv_if_ne (tgt := 119) hx hb dX8_certify_113 (by decide) (fun c_27 => ?_) (fun c_27 => ?_)
                        · skip
                          have ic_27 := iv_ne c_27
                          refine lv_aload_n hx hb dX8_certify_119 rfl (lv_at hl 3 rfl) ?_
                          refine va_get (D := (dC, dI)) (ci := 10) (v := .ref (c 104)) (C := RX8) (T := TX8) (N := 10) hx hb hts hin_X8 hown hK hP 0 rfl rfl 2 (by decide) (hts (.fieldLink RX8 31 "BlockLog" "rows" "LBlockLog$Rows;") (by decide +kernel)) (fun _ h9 => h9) rfl dX8_certify_120 ?_
                          refine va_getN (D := (dC, dI)) (ci := 6) (v := .int (st 17)) (C := RX4) (T := TX4) (N := 6) hx hb hts hin_X4 hown hK hP 4 rfl rfl 4 (by decide) (va_Nw.use rfl (hGW.1 ("BlockLog", 151, "BlockLog$Rows", "count", "I", "BlockLog") (by decide +kernel))) (fun _ h9 => h9) rfl dX8_certify_123 ?_
                          refine lv_sipush (v := 128) hx hb dX8_certify_126 (by decide) ?_
                          refine lv_icmp_lt (tgt := 135) hx hb dX8_certify_129 (by decide) (fun c_28 => ?_) (fun c_28 => ?_)
                          · skip
                            have ic_28 := iv_lt c_28
                            refine lv_aload_n hx hb dX8_certify_135 rfl (lv_at hl 3 rfl) ?_
                            refine lv_iconst (v := 4) hx hb dX8_certify_136 (by decide) ?_
                            refine lv_iload hx hb dX8_certify_137 (lv_at hl 0 rfl) ?_
                            refine lv_iload_n hx hb dX8_certify_139 rfl (lv_at hl 5 rfl) ?_
                            refine lv_lload hx hb dX8_certify_140 (lv_at hl 2 rfl) ?_
                            have hFc := vfree ((cw_D hD : va_D A (cw_W c kc st lg ai al R)) : va_D A (cw_W c kc st lg ai al R)) hS hA
                            refine va_calli (va_runV (As := [.int (4 : Int32), .int r_16, .int p1, .long r_9]) (rest := []) ⟨hx, hb, hml, hown, hts⟩ (v_X8_append l dC dI c kc st lg ai al R (4 : Int32) r_16 p1 r_9 _ (show 0 ≤ (st 9).toInt by omega) (show (st 9).toInt ≤ 1 by omega) (show 0 ≤ (st 15).toInt by omega) (show (st 15).toInt ≤ 1 by omega) (show 0 ≤ (st 17).toInt by omega) (show (st 17).toInt ≤ 128 by omega) (show 0 ≤ (st 25).toInt by omega) (show (st 25).toInt ≤ 128 by omega) (show 0 ≤ (st 26).toInt by omega) (show (st 26).toInt ≤ 128 by omega) (show -1 ≤ (st 27).toInt by omega) (show (st 27).toInt ≤ 127 by omega) (show 0 ≤ (st 28).toInt by omega) (show (st 28).toInt ≤ 1 by omega) (show aR (ai 7) 8224 (-128) 127 from hR7) (show aR (ai 23) 128 (0) 127 from hR23)) (cwV 4 hts gX8_certify_X8_append rfl rfl rfl (by decide +kernel) ⟨Nat.le_of_ble_eq_true rfl, Nat.le_of_ble_eq_true rfl⟩) ⟨fun a U g mk q => by obtain ⟨q0, q1, qP, qK, qD, qG⟩ := q; exact ⟨q0, q1, qP, va_K.moved (u := U) (U := U.calling g mk a) (Vm.Alike.refl U.vm) qK, qD, qG.same rfl rfl⟩, va_recv hK hP (ci := 10) (q := (RX8, TX8, 10)) rfl (q0 := 0) rfl, fun U hU hW => ⟨rfl, by rw [hU], by rw [hU]; exact hP, va_K.moved hW.alike hK, ((cw_D hD : va_D A (cw_W c kc st lg ai al R))).weaken (fun _ _ _ _ => trivial), hG.go hW hU hS hFc⟩⟩ rfl rfl hl.1 rfl (lv_room (Nat.le_of_ble_eq_true rfl)) dX8_certify_142 ⟨Nat.le_of_ble_eq_true rfl, Nat.le_of_ble_eq_true rfl⟩) hS (fun q _ h => hFc q h) hFc (fun r_29 ur_29 t H1 locs ht hvm er_29 hB hz1 hk1 hS => ?_)
                            subst er_29
                            obtain ⟨x9_29, x10_29, x11_29, x17_29, x25_29, x26_29, x27_29, x28_29, x29_29, f7_29, f8_29, f14_29, f20_29, f21_29, f22_29, f23_29, g19_29, k_30, k_31, k_32, k_33, k_34, k_35, k_36, k_37, k_38, k_39, k_40, k_41, k_42, k_43, hR7, hR23, hP1⟩ := hB
                            rw [ht] at hP1
                            clear hFc hz1 hk1 hvm hP
                            subst ht
                            have hP := hP1
                            clear hP1
                            generalize t.heap = H at hP hS ⊢
                            have hP : va_P (dC, dI) vwCl (cw_W c kc (rU (rU (rU (rU (rU (rU (rU (rU (rU st 9 x9_29) 10 x10_29) 11 x11_29) 17 x17_29) 25 x25_29) 26 x26_29) 27 x27_29) 28 x28_29) 29 x29_29) lg (rU (rU (rU (rU (rU (rU (rU ai 7 f7_29) 8 f8_29) 14 f14_29) 20 f20_29) 21 f21_29) 22 f22_29) 23 f23_29) (rU al 19 g19_29) R) H := hP
                            have k_32 : 0 ≤ x9_29.toInt := k_32
                            have k_33 : x9_29.toInt ≤ 1 := k_33
                            have k_34 : 0 ≤ x17_29.toInt := k_34
                            have k_35 : x17_29.toInt ≤ 128 := k_35
                            have k_36 : 0 ≤ x25_29.toInt := k_36
                            have k_37 : x25_29.toInt ≤ 128 := k_37
                            have k_38 : 0 ≤ x26_29.toInt := k_38
                            have k_39 : x26_29.toInt ≤ 128 := k_39
                            have k_40 : -1 ≤ x27_29.toInt := k_40
                            have k_41 : x27_29.toInt ≤ 127 := k_41
                            have k_42 : 0 ≤ x28_29.toInt := k_42
                            have k_43 : x28_29.toInt ≤ 1 := k_43
                            have hR7 : aR f7_29 8224 (-128) 127 := hR7
                            have hR23 : aR f23_29 128 (0) 127 := hR23
                            rcases iv_01 (a := r_29) (by omega) (by omega) with b_44 | b_44
                            · skip
                              have ib_44 := iv_eq b_44
                              rw [b_44]
                              refine lv_if_eq (tgt := 153) hx hb dX8_certify_145 (by decide) (fun c_45 => ?_) (fun c_45 => ?_)
                              · skip
                                have ic_45 := iv_eq c_45
                                refine lv_bipush (v := (-4)) hx hb dX8_certify_153 (by decide) ?_
                                refine W.widen (k := 2) (n := 12) (Nat.le_of_ble_eq_true rfl) (Nat.le_of_ble_eq_true rfl) ?_
                                refine vx_ret ?_
                                exact W.iret hx hb hr (fun t ht hW => ⟨⟨_, _, rfl, rfl, x9_29, x10_29, x11_29, x17_29, x25_29, x26_29, x27_29, x28_29, x29_29, f7_29, f8_29, f14_29, f20_29, f21_29, f22_29, f23_29, g19_29, (by omega), (by omega), (by omega), (by omega), (by omega), (by omega), (by omega), (by omega), (by omega), (by omega), (by omega), (by omega), hR7, hR23, by rw [ht]; exact hP⟩, hS.F ht⟩) hS.2.2 dX8_certify_155
                              · skip
                                have ic_45 := iv_ne c_45
                                exfalso
                                omega
                            · skip
                              have ib_44 := iv_eq b_44
                              rw [b_44]
                              refine lv_if_eq (tgt := 153) hx hb dX8_certify_145 (by decide) (fun c_46 => ?_) (fun c_46 => ?_)
                              · skip
                                have ic_46 := iv_eq c_46
                                exfalso
                                omega
                              · skip
                                have ic_46 := iv_ne c_46
                                refine lv_iload hx hb dX8_certify_148 (lv_at hl 0 rfl) ?_
                                refine lv_goto (tgt := 155) hx hb dX8_certify_150 (by decide) ?_
                                refine W.widen (k := 2) (n := 12) (Nat.le_of_ble_eq_true rfl) (Nat.le_of_ble_eq_true rfl) ?_
                                refine vx_ret ?_
                                exact W.iret hx hb hr (fun t ht hW => ⟨⟨_, _, rfl, rfl, x9_29, x10_29, x11_29, x17_29, x25_29, x26_29, x27_29, x28_29, x29_29, f7_29, f8_29, f14_29, f20_29, f21_29, f22_29, f23_29, g19_29, (by omega), (by omega), (by omega), (by omega), (by omega), (by omega), (by omega), (by omega), (by omega), (by omega), (by omega), (by omega), hR7, hR23, by rw [ht]; exact hP⟩, hS.F ht⟩) hS.2.2 dX8_certify_155
                          · skip
                            have ic_28 := iv_nlt c_28
                            refine lv_bipush (v := (-2)) hx hb dX8_certify_132 (by decide) ?_
                            refine W.widen (k := 2) (n := 12) (Nat.le_of_ble_eq_true rfl) (Nat.le_of_ble_eq_true rfl) ?_
                            refine vx_ret ?_
                            exact W.iret hx hb hr (fun t ht hW => ⟨⟨_, _, rfl, rfl, st 9, st 10, st 11, st 17, st 25, st 26, st 27, st 28, st 29, ai 7, ai 8, ai 14, ai 20, ai 21, ai 22, ai 23, al 19, (by omega), (by omega), (by omega), (by omega), (by omega), (by omega), (by omega), (by omega), (by omega), (by omega), (by omega), (by omega), hR7, hR23, by rw [ht]; exact hP⟩, hS.F ht⟩) hS.2.2 dX8_certify_134
                        · skip
                          have ic_27 := iv_eq c_27
                          exfalso
                          omega
                    · skip
                      have ic_21 := iv_ne c_21
                      exfalso
                      omega
                  · skip
                    have ib_20 := iv_eq b_20
                    rw [b_20]
                    refine lv_if_eq (tgt := 104) hx hb dX8_certify_98 (by decide) (fun c_47 => ?_) (fun c_47 => ?_)
                    · skip
                      have ic_47 := iv_eq c_47
                      exfalso
                      omega
                    · skip
                      have ic_47 := iv_ne c_47
                      refine lv_iload hx hb dX8_certify_101 (lv_at hl 0 rfl) ?_
                      refine W.widen (k := 2) (n := 12) (Nat.le_of_ble_eq_true rfl) (Nat.le_of_ble_eq_true rfl) ?_
                      refine vx_ret ?_
                      exact W.iret hx hb hr (fun t ht hW => ⟨⟨_, _, rfl, rfl, st 9, st 10, st 11, st 17, st 25, st 26, st 27, st 28, st 29, ai 7, ai 8, ai 14, ai 20, ai 21, ai 22, ai 23, al 19, (by omega), (by omega), (by omega), (by omega), (by omega), (by omega), (by omega), (by omega), (by omega), (by omega), (by omega), (by omega), hR7, hR23, by rw [ht]; exact hP⟩, hS.F ht⟩) hS.2.2 dX8_certify_103
                · skip
                  have ic_15 := iv_nle c_15
                  refine lv_bipush (v := (-8)) hx hb dX8_certify_75 (by decide) ?_
                  refine W.widen (k := 2) (n := 12) (Nat.le_of_ble_eq_true rfl) (Nat.le_of_ble_eq_true rfl) ?_
                  refine vx_ret ?_
                  exact W.iret hx hb hr (fun t ht hW => ⟨⟨_, _, rfl, rfl, st 9, st 10, st 11, st 17, st 25, st 26, st 27, st 28, st 29, ai 7, ai 8, ai 14, ai 20, ai 21, ai 22, ai 23, al 19, (by omega), (by omega), (by omega), (by omega), (by omega), (by omega), (by omega), (by omega), (by omega), (by omega), (by omega), (by omega), hR7, hR23, by rw [ht]; exact hP⟩, hS.F ht⟩) hS.2.2 dX8_certify_77
              · skip
                have ic_13 := iv_eq c_13
                refine lv_bipush (v := (-6)) hx hb dX8_certify_64 (by decide) ?_
                refine W.widen (k := 2) (n := 12) (Nat.le_of_ble_eq_true rfl) (Nat.le_of_ble_eq_true rfl) ?_
                refine vx_ret ?_
                exact W.iret hx hb hr (fun t ht hW => ⟨⟨_, _, rfl, rfl, st 9, st 10, st 11, st 17, st 25, st 26, st 27, st 28, st 29, ai 7, ai 8, ai 14, ai 20, ai 21, ai 22, ai 23, al 19, (by omega), (by omega), (by omega), (by omega), (by omega), (by omega), (by omega), (by omega), (by omega), (by omega), (by omega), (by omega), hR7, hR23, by rw [ht]; exact hP⟩, hS.F ht⟩) hS.2.2 dX8_certify_66
            · skip
              have ic_8 := iv_ne c_8
              exfalso
              omega
          · skip
            have ib_7 := iv_eq b_7
            rw [b_7]
            refine lv_if_eq (tgt := 37) hx hb dX8_certify_31 (by decide) (fun c_48 => ?_) (fun c_48 => ?_)
            · skip
              have ic_48 := iv_eq c_48
              exfalso
              omega
            · skip
              have ic_48 := iv_ne c_48
              refine lv_bipush (v := (-3)) hx hb dX8_certify_34 (by decide) ?_
              refine W.widen (k := 2) (n := 12) (Nat.le_of_ble_eq_true rfl) (Nat.le_of_ble_eq_true rfl) ?_
              refine vx_ret ?_
              exact W.iret hx hb hr (fun t ht hW => ⟨⟨_, _, rfl, rfl, st 9, st 10, st 11, st 17, st 25, st 26, st 27, st 28, st 29, ai 7, ai 8, ai 14, ai 20, ai 21, ai 22, ai 23, al 19, (by omega), (by omega), (by omega), (by omega), (by omega), (by omega), (by omega), (by omega), (by omega), (by omega), (by omega), (by omega), hR7, hR23, by rw [ht]; exact hP⟩, hS.F ht⟩) hS.2.2 dX8_certify_36
        · skip
          have ic_3 := iv_nle c_3
          obtain ⟨sa, hstr⟩ := hGW.2.1 ("BlockLog", 188, "signers is not 0 .. 15") (by decide +kernel)
          exact vx_throwS (names := ["java/lang/RuntimeException", "java/lang/Exception"]) hx hb hl0 hown (by decide +kernel) (by decide +kernel) (hts (.classLink RX8 76 "java/lang/IllegalArgumentException") (by decide +kernel)) (hts (.initialized "java/lang/IllegalArgumentException") (by decide +kernel)) hstr (vx_hat (B := gx_bad "java/lang/IllegalArgumentException") (fun w h => hts w (List.mem_cons_of_mem _ (List.mem_append_left _ (List.mem_append_right _ h)))) (by decide +kernel) (hGW.bad (by decide))) (by decide +kernel) hG.2.1 hG.2.2.1 hS (hl.1.trans hml.symm) dX8_certify_14 dX8_certify_17 dX8_certify_18 dX8_certify_20 dX8_certify_23 (fun x h => (hno x h).elim) (Nat.le_of_ble_eq_true rfl) (Nat.le_of_ble_eq_true rfl) (Nat.le_of_ble_eq_true rfl) (Nat.le_of_ble_eq_true rfl) hlocks (fun t _ h1 h2 => ⟨(), trivial, ⟨(by decide +kernel), st 9, st 10, st 11, st 17, st 25, st 26, st 27, st 28, st 29, ai 7, ai 8, ai 14, ai 20, ai 21, ai 22, ai 23, al 19, (by omega), (by omega), (by omega), (by omega), (by omega), (by omega), (by omega), (by omega), (by omega), (by omega), (by omega), (by omega), hR7, hR23, hP.kept (fun k q hk => h2 _ (hP k q hk).lt)⟩, Nat.le_trans hS.1 h1, fun q hq hn => (h2 q (Nat.lt_of_lt_of_le hq hS.1)).trans (hS.2.1 q hq hn)⟩) hS.2.2 (Nat.le_of_ble_eq_true rfl) (Nat.le_of_ble_eq_true rfl)
  exact main s.heap [] hP hS

set_option maxHeartbeats 4000000 in
set_option maxRecDepth 100000 in
theorem v_X8_version (l : Launch) (hl0 : l.stackTraces = false) (dC : Nat → ClassId) (dI : Nat → Nat → Nat) (c : Nat → Nat) (kc : Nat → ClassId) (st : Nat → Int32) (lg : Nat → Int64) (ai : Nat → Nat → Int32) (al : Nat → Nat → Int64) (R : va_W) (p0 : Int32) (sz : Nat) (hf9a : 0 ≤ (st 9).toInt) (hf9b : (st 9).toInt ≤ 1) (hf26a : 0 ≤ (st 26).toInt) (hf26b : (st 26).toInt ≤ 128) : vx_Met l yX8_version wsX8_version ({ frames := 7, cells := 2, slots := 12, locals := 110 }) (va_Pc [.ref (c 100), .int p0] (fun U => U.heap.size = sz ∧ va_P (dC, dI) vwCl (cw_W c kc st lg ai al R) U.heap ∧ va_K (dC, dI) vwCl (cw_T kc) U ∧ va_D (fun _ => True) (cw_W c kc st lg ai al R) ∧ gx_E (va_A (cw_W c kc st lg ai al R) sz) U)) (va_Qi (fun r (u : Int32) => r = u) (fun u t => va_P (dC, dI) vwCl (cw_W c kc st lg ai al R) t.heap) (va_A (cw_W c kc st lg ai al R) sz)) (vx_X (fun _ : Unit => True) (fun E _ t => E ∈ (["java/lang/IllegalArgumentException", "java/lang/IllegalStateException"] : List String) ∧ va_P (dC, dI) vwCl (cw_W c kc st lg ai al R) t.heap) (va_A (cw_W c kc st lg ai al R) sz)) 2 12 (va_A (cw_W c kc st lg ai al R) sz) := by
  refine vx_ofW (cc := cX8_version) (maxL := 2) (ret := (some .int)) (by decide) rfl ?_
  intro p e s m args below meth cM s₁ B hml hno hv
  obtain ⟨rfl, hsz, hP, hK, hD0, hG⟩ := hv
  have hx := B.exec
  have hb := B.bytes
  have hr := B.returns
  have hts := atoms_spec (ws := wsX8_version) B.pre
  have hown : s.vm.findClass RX8 = some m.cls := findClass_of_methodNamed B.named
  have hGW := hG.1
  have hlocks := B.notSynchronized
  subst hsz
  have hD := hD0.self (sz := s.heap.size)
  generalize hAe : va_A (cw_W c kc st lg ai al R) s.heap.size = A at hD hG ⊢
  have hA : ∀ q : Nat, s.heap.size ≤ q → A q := fun q h => by rw [← hAe]; exact Or.inr h
  have hS : va_S A s.heap s.heap [] := va_S.rf
  clear hAe hD0
  have hl := lv_entry ([.ref (c 100), .int p0]) (n := 2) (Nat.le_of_ble_eq_true rfl)
  rw [lg_entry_eq]
  generalize (lg_sl ([.ref (c 100), .int p0]) ++ List.replicate (2 - (lg_sl ([.ref (c 100), .int p0])).length) Slot.unset).toArray = ls at hl ⊢
  have hl : lv_has ls 2 [(0, .ref (c 100)), (1, .int p0)] := hl
  have z_0 : (0 : Int32).toInt = 0 := by decide
  have z_1 : (1 : Int32).toInt = 1 := by decide
  have hin_X6 : ∀ w ∈ u_ws RX6 TX6 12, w ∈ wsX8_version := by decide +kernel
  have hin_X8 : ∀ w ∈ u_ws RX8 TX8 10, w ∈ wsX8_version := by decide +kernel
  have main : ∀ (H : Heap) (locs : List Loc), va_P (dC, dI) vwCl (cw_W c kc st lg ai al R) H → va_S A s.heap H locs → W p l e (headSpec wsX8_version ({ frames := 7, cells := 2, slots := 12, locals := 110 })).room s m ([.ref (c 100), .int p0] : List Value).toArray below meth cM H locs 0 0 (vx_MQ below (va_Qi (fun r (u : Int32) => r = u) (fun u t => va_P (dC, dI) vwCl (cw_W c kc st lg ai al R) t.heap) A) (vx_X (fun _ : Unit => True) (fun E _ t => E ∈ (["java/lang/IllegalArgumentException", "java/lang/IllegalStateException"] : List String) ∧ va_P (dC, dI) vwCl (cw_W c kc st lg ai al R) t.heap) A) ([.ref (c 100), .int p0] : List Value).toArray s 2 12 A) (F0 m 0 ls []) := by
    intro H locs hP hS
    refine lv_aload_n hx hb dX8_version_0 rfl (lv_at hl 0 rfl) ?_
    have hFc := vfree ((cw_D hD : va_D A (cw_W c kc st lg ai al R)) : va_D A (cw_W c kc st lg ai al R)) hS hA
    refine vx_callv (vx_runV (As := []) (rest := []) ⟨hx, hb, hml, hown, hts⟩ (v_X8_demandPower l hl0 dC dI c kc st lg ai al R  _ (show 0 ≤ (st 9).toInt by omega) (show (st 9).toInt ≤ 1 by omega)) (cwV 0 hts gX8_version_X8_demandPower rfl rfl rfl (by decide +kernel) ⟨Nat.le_of_ble_eq_true rfl, Nat.le_of_ble_eq_true rfl⟩) ⟨fun a U g mk q => by obtain ⟨q0, q1, qP, qK, qD, qG⟩ := q; exact ⟨q0, q1, qP, va_K.moved (u := U) (U := U.calling g mk a) (Vm.Alike.refl U.vm) qK, qD, qG.same rfl rfl⟩, va_recv hK hP (ci := 10) (q := (RX8, TX8, 10)) rfl (q0 := 0) rfl, fun U hU hW => ⟨rfl, by rw [hU], by rw [hU]; exact hP, va_K.moved hW.alike hK, ((cw_D hD : va_D A (cw_W c kc st lg ai al R))).weaken (fun _ _ _ _ => trivial), hG.go hW hU hS hFc⟩⟩ rfl rfl hl.1 rfl (lv_room (Nat.le_of_ble_eq_true rfl)) dX8_version_1 ⟨Nat.le_of_ble_eq_true rfl, Nat.le_of_ble_eq_true rfl⟩) hS (fun q _ h => hFc q h) hFc (fun q _ h => hFc q h) (fun E9 ce q9 u t H1 locs ht hvm hp hE hz hk hS hcell hv hcl => ?_) (fun ur_1 t H1 locs ht hvm er_1 hB hz1 hk1 hS => ?_)
    · skip
      obtain ⟨hE, hP1⟩ := hE
      rw [ht] at hP1
      have hP : va_P (dC, dI) vwCl (cw_W c kc st lg ai al R) H1 := hP1
      exact vx_out (fun x h => (hno x h).elim) hlocks hcell hv hcl (fun t ht hW => ⟨(), trivial, ⟨(show ∀ x ∈ (["java/lang/IllegalStateException"] : List String), x ∈ (["java/lang/IllegalArgumentException", "java/lang/IllegalStateException"] : List String) by decide +kernel) _ hE, by rw [ht]; exact hP⟩, hS.F ht⟩) hS.2.2 (Nat.le_of_ble_eq_true rfl) (Nat.le_of_ble_eq_true rfl)
    · skip
      have hP1 : va_P (dC, dI) vwCl (cw_W c kc st lg ai al R) t.heap := hB
      rw [ht] at hP1
      clear hFc hz1 hk1 hvm hP
      subst ht
      have hP := hP1
      clear hP1
      generalize t.heap = H at hP hS ⊢
      have hP : va_P (dC, dI) vwCl (cw_W c kc st lg ai al R) H := hP
      refine lv_iload_n hx hb dX8_version_4 rfl (lv_at hl 1 rfl) ?_
      refine lv_if_eq (tgt := 23) hx hb dX8_version_5 (by decide) (fun c_2 => ?_) (fun c_2 => ?_)
      · skip
        have ic_2 := iv_eq c_2
        refine lv_iload_n hx hb dX8_version_23 rfl (lv_at hl 1 rfl) ?_
        refine lv_if_ne (tgt := 37) hx hb dX8_version_24 (by decide) (fun c_3 => ?_) (fun c_3 => ?_)
        · skip
          have ic_3 := iv_ne c_3
          exfalso
          omega
        · skip
          have ic_3 := iv_eq c_3
          refine lv_aload_n hx hb dX8_version_27 rfl (lv_at hl 0 rfl) ?_
          refine va_get (D := (dC, dI)) (ci := 10) (v := .ref (c 105)) (C := RX8) (T := TX8) (N := 10) hx hb hts hin_X8 hown hK hP 0 rfl rfl 3 (by decide) (hts (.fieldLink RX8 40 "BlockLog" "story" "LBlockLog$Story;") (by decide +kernel)) (fun _ h9 => h9) rfl dX8_version_28 ?_
          refine vp_callSi (va_Run.run (va_runV (As := []) (rest := []) ⟨hx, hb, hml, hown, hts⟩ (v_X6_lastVersion l dC dI c kc st lg ai al R  (show 0 ≤ (st 26).toInt by omega) (show (st 26).toInt ≤ 128 by omega)) (cwV 0 hts gX8_version_X6_lastVersion rfl rfl rfl (by decide +kernel) ⟨Nat.le_of_ble_eq_true rfl, Nat.le_of_ble_eq_true rfl⟩) ⟨fun a U g mk q => by obtain ⟨q0, qP, qK⟩ := q; exact ⟨q0, qP, va_K.moved (u := U) (U := U.calling g mk a) (Vm.Alike.refl U.vm) qK⟩, va_recv hK hP (ci := 8) (q := (RX6, TX6, 12)) rfl (q0 := 5) rfl, fun U hU hW => ⟨rfl, by rw [hU]; exact hP, va_K.moved hW.alike hK⟩⟩ rfl rfl hl.1 rfl (lv_room (Nat.le_of_ble_eq_true rfl)) dX8_version_31 ⟨Nat.le_of_ble_eq_true rfl, Nat.le_of_ble_eq_true rfl⟩)) (fun r_4 er_4 => ?_)
          refine lv_goto (tgt := 44) hx hb dX8_version_34 (by decide) ?_
          refine W.widen (k := 2) (n := 12) (Nat.le_of_ble_eq_true rfl) (Nat.le_of_ble_eq_true rfl) ?_
          refine vx_ret ?_
          exact W.iret hx hb hr (fun t ht hW => ⟨⟨_, _, rfl, rfl, show va_P (dC, dI) vwCl (cw_W c kc st lg ai al R) t.heap by rw [ht]; exact hP⟩, hS.F ht⟩) hS.2.2 dX8_version_44
      · skip
        have ic_2 := iv_ne c_2
        refine lv_iload_n hx hb dX8_version_8 rfl (lv_at hl 1 rfl) ?_
        refine lv_iconst (v := 1) hx hb dX8_version_9 (by decide) ?_
        refine lv_icmp_eq (tgt := 23) hx hb dX8_version_10 (by decide) (fun c_5 => ?_) (fun c_5 => ?_)
        · skip
          have ic_5 := iv_eq c_5
          refine lv_iload_n hx hb dX8_version_23 rfl (lv_at hl 1 rfl) ?_
          refine lv_if_ne (tgt := 37) hx hb dX8_version_24 (by decide) (fun c_6 => ?_) (fun c_6 => ?_)
          · skip
            have ic_6 := iv_ne c_6
            refine lv_aload_n hx hb dX8_version_37 rfl (lv_at hl 0 rfl) ?_
            refine va_get (D := (dC, dI)) (ci := 10) (v := .ref (c 105)) (C := RX8) (T := TX8) (N := 10) hx hb hts hin_X8 hown hK hP 0 rfl rfl 3 (by decide) (hts (.fieldLink RX8 40 "BlockLog" "story" "LBlockLog$Story;") (by decide +kernel)) (fun _ h9 => h9) rfl dX8_version_38 ?_
            refine va_getN (D := (dC, dI)) (ci := 8) (v := .int (st 29)) (C := RX6) (T := TX6) (N := 12) hx hb hts hin_X6 hown hK hP 5 rfl rfl 11 (by decide) (va_Nw.use rfl (hGW.1 ("BlockLog", 207, "BlockLog$Story", "baseHeight", "I", "BlockLog") (by decide +kernel))) (fun _ h9 => h9) rfl dX8_version_41 ?_
            refine W.widen (k := 2) (n := 12) (Nat.le_of_ble_eq_true rfl) (Nat.le_of_ble_eq_true rfl) ?_
            refine vx_ret ?_
            exact W.iret hx hb hr (fun t ht hW => ⟨⟨_, _, rfl, rfl, show va_P (dC, dI) vwCl (cw_W c kc st lg ai al R) t.heap by rw [ht]; exact hP⟩, hS.F ht⟩) hS.2.2 dX8_version_44
          · skip
            have ic_6 := iv_eq c_6
            exfalso
            omega
        · skip
          have ic_5 := iv_ne c_5
          obtain ⟨sa, hstr⟩ := hGW.2.1 ("BlockLog", 202, "what is not 0 or 1") (by decide +kernel)
          exact vx_throwS (names := ["java/lang/RuntimeException", "java/lang/Exception"]) hx hb hl0 hown (by decide +kernel) (by decide +kernel) (hts (.classLink RX8 76 "java/lang/IllegalArgumentException") (by decide +kernel)) (hts (.initialized "java/lang/IllegalArgumentException") (by decide +kernel)) hstr (vx_hat (B := gx_bad "java/lang/IllegalArgumentException") (fun w h => hts w (List.mem_cons_of_mem _ (List.mem_append_left _ (List.mem_append_right _ h)))) (by decide +kernel) (hGW.bad (by decide))) (by decide +kernel) hG.2.1 hG.2.2.1 hS (hl.1.trans hml.symm) dX8_version_13 dX8_version_16 dX8_version_17 dX8_version_19 dX8_version_22 (fun x h => (hno x h).elim) (Nat.le_of_ble_eq_true rfl) (Nat.le_of_ble_eq_true rfl) (Nat.le_of_ble_eq_true rfl) (Nat.le_of_ble_eq_true rfl) hlocks (fun t _ h1 h2 => ⟨(), trivial, ⟨(by decide +kernel), hP.kept (fun k q hk => h2 _ (hP k q hk).lt)⟩, Nat.le_trans hS.1 h1, fun q hq hn => (h2 q (Nat.lt_of_lt_of_le hq hS.1)).trans (hS.2.1 q hq hn)⟩) hS.2.2 (Nat.le_of_ble_eq_true rfl) (Nat.le_of_ble_eq_true rfl)
  exact main s.heap [] hP hS

set_option maxHeartbeats 4000000 in
set_option maxRecDepth 100000 in
theorem v_X8_slot (l : Launch) (hl0 : l.stackTraces = false) (dC : Nat → ClassId) (dI : Nat → Nat → Nat) (c : Nat → Nat) (kc : Nat → ClassId) (st : Nat → Int32) (lg : Nat → Int64) (ai : Nat → Nat → Int32) (al : Nat → Nat → Int64) (R : va_W) (p0 : Int32) (p1 : Int32) (sz : Nat) (hf9a : 0 ≤ (st 9).toInt) (hf9b : (st 9).toInt ≤ 1) (hf15a : 0 ≤ (st 15).toInt) (hf15b : (st 15).toInt ≤ 1) (hf25a : 0 ≤ (st 25).toInt) (hf25b : (st 25).toInt ≤ 128) (hf26a : 0 ≤ (st 26).toInt) (hf26b : (st 26).toInt ≤ 128) (hf28a : 0 ≤ (st 28).toInt) (hf28b : (st 28).toInt ≤ 1) (hR23 : aR (ai 23) 128 (0) 127) : vx_Met l yX8_slot wsX8_slot ({ frames := 7, cells := 2, slots := 12, locals := 110 }) (va_Pc [.ref (c 100), .int p0, .int p1] (fun U => U.heap.size = sz ∧ va_P (dC, dI) vwCl (cw_W c kc st lg ai al R) U.heap ∧ va_K (dC, dI) vwCl (cw_T kc) U ∧ va_D (fun _ => True) (cw_W c kc st lg ai al R) ∧ gx_E (va_A (cw_W c kc st lg ai al R) sz) U)) (va_Ql (fun r (u : Int64) => r = u) (fun _ t => ∃ (g24 : Nat → Int64), va_P (dC, dI) vwCl (cw_W c kc st lg ai (rU al 24 g24) R) t.heap) (va_A (cw_W c kc st lg ai al R) sz)) (vx_X (fun _ : Unit => True) (fun E _ t => E ∈ (["java/lang/IllegalArgumentException", "java/lang/IllegalStateException"] : List String) ∧ ∃ (g24 : Nat → Int64), va_P (dC, dI) vwCl (cw_W c kc st lg ai (rU al 24 g24) R) t.heap) (va_A (cw_W c kc st lg ai al R) sz)) 2 12 (va_A (cw_W c kc st lg ai al R) sz) := by
  refine vx_ofW (cc := cX8_slot) (maxL := 3) (ret := (some .long)) (by decide) rfl ?_
  intro p e s m args below meth cM s₁ B hml hno hv
  obtain ⟨rfl, hsz, hP, hK, hD0, hG⟩ := hv
  have hx := B.exec
  have hb := B.bytes
  have hr := B.returns
  have hts := atoms_spec (ws := wsX8_slot) B.pre
  have hown : s.vm.findClass RX8 = some m.cls := findClass_of_methodNamed B.named
  have hGW := hG.1
  have hlocks := B.notSynchronized
  subst hsz
  have hD := hD0.self (sz := s.heap.size)
  generalize hAe : va_A (cw_W c kc st lg ai al R) s.heap.size = A at hD hG ⊢
  have hA : ∀ q : Nat, s.heap.size ≤ q → A q := fun q h => by rw [← hAe]; exact Or.inr h
  have hS : va_S A s.heap s.heap [] := va_S.rf
  clear hAe hD0
  have hl := lv_entry ([.ref (c 100), .int p0, .int p1]) (n := 3) (Nat.le_of_ble_eq_true rfl)
  rw [lg_entry_eq]
  generalize (lg_sl ([.ref (c 100), .int p0, .int p1]) ++ List.replicate (3 - (lg_sl ([.ref (c 100), .int p0, .int p1])).length) Slot.unset).toArray = ls at hl ⊢
  have hl : lv_has ls 3 [(0, .ref (c 100)), (1, .int p0), (2, .int p1)] := hl
  have z_0 : (0 : Int32).toInt = 0 := by decide
  have z_1 : (1 : Int32).toInt = 1 := by decide
  have z_16 : (16 : Int32).toInt = 16 := by decide
  have hin_X6 : ∀ w ∈ u_ws RX6 TX6 12, w ∈ wsX8_slot := by decide +kernel
  have hin_X8 : ∀ w ∈ u_ws RX8 TX8 10, w ∈ wsX8_slot := by decide +kernel
  have main : ∀ (H : Heap) (locs : List Loc), va_P (dC, dI) vwCl (cw_W c kc st lg ai al R) H → va_S A s.heap H locs → W p l e (headSpec wsX8_slot ({ frames := 7, cells := 2, slots := 12, locals := 110 })).room s m ([.ref (c 100), .int p0, .int p1] : List Value).toArray below meth cM H locs 0 0 (vx_MQ below (va_Ql (fun r (u : Int64) => r = u) (fun _ t => ∃ (g24 : Nat → Int64), va_P (dC, dI) vwCl (cw_W c kc st lg ai (rU al 24 g24) R) t.heap) A) (vx_X (fun _ : Unit => True) (fun E _ t => E ∈ (["java/lang/IllegalArgumentException", "java/lang/IllegalStateException"] : List String) ∧ ∃ (g24 : Nat → Int64), va_P (dC, dI) vwCl (cw_W c kc st lg ai (rU al 24 g24) R) t.heap) A) ([.ref (c 100), .int p0, .int p1] : List Value).toArray s 2 12 A) (F0 m 0 ls []) := by
    intro H locs hP hS
    refine lv_aload_n hx hb dX8_slot_0 rfl (lv_at hl 0 rfl) ?_
    have hFc := vfree ((cw_D hD : va_D A (cw_W c kc st lg ai al R)) : va_D A (cw_W c kc st lg ai al R)) hS hA
    refine vx_callv (vx_runV (As := []) (rest := []) ⟨hx, hb, hml, hown, hts⟩ (v_X8_demandPower l hl0 dC dI c kc st lg ai al R  _ (show 0 ≤ (st 9).toInt by omega) (show (st 9).toInt ≤ 1 by omega)) (cwV 0 hts gX8_slot_X8_demandPower rfl rfl rfl (by decide +kernel) ⟨Nat.le_of_ble_eq_true rfl, Nat.le_of_ble_eq_true rfl⟩) ⟨fun a U g mk q => by obtain ⟨q0, q1, qP, qK, qD, qG⟩ := q; exact ⟨q0, q1, qP, va_K.moved (u := U) (U := U.calling g mk a) (Vm.Alike.refl U.vm) qK, qD, qG.same rfl rfl⟩, va_recv hK hP (ci := 10) (q := (RX8, TX8, 10)) rfl (q0 := 0) rfl, fun U hU hW => ⟨rfl, by rw [hU], by rw [hU]; exact hP, va_K.moved hW.alike hK, ((cw_D hD : va_D A (cw_W c kc st lg ai al R))).weaken (fun _ _ _ _ => trivial), hG.go hW hU hS hFc⟩⟩ rfl rfl hl.1 rfl (lv_room (Nat.le_of_ble_eq_true rfl)) dX8_slot_1 ⟨Nat.le_of_ble_eq_true rfl, Nat.le_of_ble_eq_true rfl⟩) hS (fun q _ h => hFc q h) hFc (fun q _ h => hFc q h) (fun E9 ce q9 u t H1 locs ht hvm hp hE hz hk hS hcell hv hcl => ?_) (fun ur_1 t H1 locs ht hvm er_1 hB hz1 hk1 hS => ?_)
    · skip
      obtain ⟨hE, hP1⟩ := hE
      rw [ht] at hP1
      have hP : va_P (dC, dI) vwCl (cw_W c kc st lg ai al R) H1 := hP1
      exact vx_out (fun x h => (hno x h).elim) hlocks hcell hv hcl (fun t ht hW => ⟨(), trivial, ⟨(show ∀ x ∈ (["java/lang/IllegalStateException"] : List String), x ∈ (["java/lang/IllegalArgumentException", "java/lang/IllegalStateException"] : List String) by decide +kernel) _ hE, al 24, by rw [ht]; exact hP⟩, hS.F ht⟩) hS.2.2 (Nat.le_of_ble_eq_true rfl) (Nat.le_of_ble_eq_true rfl)
    · skip
      have hP1 : va_P (dC, dI) vwCl (cw_W c kc st lg ai al R) t.heap := hB
      rw [ht] at hP1
      clear hFc hz1 hk1 hvm hP
      subst ht
      have hP := hP1
      clear hP1
      generalize t.heap = H at hP hS ⊢
      have hP : va_P (dC, dI) vwCl (cw_W c kc st lg ai al R) H := hP
      refine lv_iload_n hx hb dX8_slot_4 rfl (lv_at hl 2 rfl) ?_
      refine lv_if_lt (tgt := 14) hx hb dX8_slot_5 (by decide) (fun c_2 => ?_) (fun c_2 => ?_)
      · skip
        have ic_2 := iv_lt c_2
        obtain ⟨sa, hstr⟩ := hGW.2.1 ("BlockLog", 116, "no such slot") (by decide +kernel)
        exact vx_throwS (names := ["java/lang/RuntimeException", "java/lang/Exception"]) hx hb hl0 hown (by decide +kernel) (by decide +kernel) (hts (.classLink RX8 76 "java/lang/IllegalArgumentException") (by decide +kernel)) (hts (.initialized "java/lang/IllegalArgumentException") (by decide +kernel)) hstr (vx_hat (B := gx_bad "java/lang/IllegalArgumentException") (fun w h => hts w (List.mem_cons_of_mem _ (List.mem_append_left _ (List.mem_append_right _ h)))) (by decide +kernel) (hGW.bad (by decide))) (by decide +kernel) hG.2.1 hG.2.2.1 hS (hl.1.trans hml.symm) dX8_slot_14 dX8_slot_17 dX8_slot_18 dX8_slot_20 dX8_slot_23 (fun x h => (hno x h).elim) (Nat.le_of_ble_eq_true rfl) (Nat.le_of_ble_eq_true rfl) (Nat.le_of_ble_eq_true rfl) (Nat.le_of_ble_eq_true rfl) hlocks (fun t _ h1 h2 => ⟨(), trivial, ⟨(by decide +kernel), al 24, hP.kept (fun k q hk => h2 _ (hP k q hk).lt)⟩, Nat.le_trans hS.1 h1, fun q hq hn => (h2 q (Nat.lt_of_lt_of_le hq hS.1)).trans (hS.2.1 q hq hn)⟩) hS.2.2 (Nat.le_of_ble_eq_true rfl) (Nat.le_of_ble_eq_true rfl)
      · skip
        have ic_2 := iv_nlt c_2
        refine lv_iload_n hx hb dX8_slot_8 rfl (lv_at hl 2 rfl) ?_
        refine lv_bipush (v := 16) hx hb dX8_slot_9 (by decide) ?_
        refine lv_icmp_lt (tgt := 24) hx hb dX8_slot_11 (by decide) (fun c_3 => ?_) (fun c_3 => ?_)
        · skip
          have ic_3 := iv_lt c_3
          refine lv_aload_n hx hb dX8_slot_24 rfl (lv_at hl 0 rfl) ?_
          refine va_get (D := (dC, dI)) (ci := 10) (v := .ref (c 105)) (C := RX8) (T := TX8) (N := 10) hx hb hts hin_X8 hown hK hP 0 rfl rfl 3 (by decide) (hts (.fieldLink RX8 40 "BlockLog" "story" "LBlockLog$Story;") (by decide +kernel)) (fun _ h9 => h9) rfl dX8_slot_25 ?_
          refine lv_iload_n hx hb dX8_slot_28 rfl (lv_at hl 1 rfl) ?_
          refine vp_callSi (va_Run.run (va_runV (As := [.int p0]) (rest := []) ⟨hx, hb, hml, hown, hts⟩ (v_X6_isKept l dC dI c kc st lg ai al R p0 (show 0 ≤ (st 26).toInt by omega) (show (st 26).toInt ≤ 128 by omega)) (cwV 1 hts gX8_slot_X6_isKept rfl rfl rfl (by decide +kernel) ⟨Nat.le_of_ble_eq_true rfl, Nat.le_of_ble_eq_true rfl⟩) ⟨fun a U g mk q => by obtain ⟨q0, qP, qK⟩ := q; exact ⟨q0, qP, va_K.moved (u := U) (U := U.calling g mk a) (Vm.Alike.refl U.vm) qK⟩, va_recv hK hP (ci := 8) (q := (RX6, TX6, 12)) rfl (q0 := 5) rfl, fun U hU hW => ⟨rfl, by rw [hU]; exact hP, va_K.moved hW.alike hK⟩⟩ rfl rfl hl.1 rfl (lv_room (Nat.le_of_ble_eq_true rfl)) dX8_slot_29 ⟨Nat.le_of_ble_eq_true rfl, Nat.le_of_ble_eq_true rfl⟩)) (fun r_4 er_4 => ?_)
          obtain ⟨k_5, k_6⟩ := er_4
          rcases iv_01 (a := r_4) (by omega) (by omega) with b_7 | b_7
          · skip
            have ib_7 := iv_eq b_7
            rw [b_7]
            refine lv_if_ne (tgt := 45) hx hb dX8_slot_32 (by decide) (fun c_8 => ?_) (fun c_8 => ?_)
            · skip
              have ic_8 := iv_ne c_8
              exfalso
              omega
            · skip
              have ic_8 := iv_eq c_8
              obtain ⟨sa, hstr⟩ := hGW.2.1 ("BlockLog", 213, "the version is not kept") (by decide +kernel)
              exact vx_throwS (names := ["java/lang/RuntimeException", "java/lang/Exception"]) hx hb hl0 hown (by decide +kernel) (by decide +kernel) (hts (.classLink RX8 76 "java/lang/IllegalArgumentException") (by decide +kernel)) (hts (.initialized "java/lang/IllegalArgumentException") (by decide +kernel)) hstr (vx_hat (B := gx_bad "java/lang/IllegalArgumentException") (fun w h => hts w (List.mem_cons_of_mem _ (List.mem_append_left _ (List.mem_append_right _ h)))) (by decide +kernel) (hGW.bad (by decide))) (by decide +kernel) hG.2.1 hG.2.2.1 hS (hl.1.trans hml.symm) dX8_slot_35 dX8_slot_38 dX8_slot_39 dX8_slot_41 dX8_slot_44 (fun x h => (hno x h).elim) (Nat.le_of_ble_eq_true rfl) (Nat.le_of_ble_eq_true rfl) (Nat.le_of_ble_eq_true rfl) (Nat.le_of_ble_eq_true rfl) hlocks (fun t _ h1 h2 => ⟨(), trivial, ⟨(by decide +kernel), al 24, hP.kept (fun k q hk => h2 _ (hP k q hk).lt)⟩, Nat.le_trans hS.1 h1, fun q hq hn => (h2 q (Nat.lt_of_lt_of_le hq hS.1)).trans (hS.2.1 q hq hn)⟩) hS.2.2 (Nat.le_of_ble_eq_true rfl) (Nat.le_of_ble_eq_true rfl)
          · skip
            have ib_7 := iv_eq b_7
            rw [b_7]
            refine lv_if_ne (tgt := 45) hx hb dX8_slot_32 (by decide) (fun c_9 => ?_) (fun c_9 => ?_)
            · skip
              have ic_9 := iv_ne c_9
              refine lv_aload_n hx hb dX8_slot_45 rfl (lv_at hl 0 rfl) ?_
              refine va_get (D := (dC, dI)) (ci := 10) (v := .ref (c 105)) (C := RX8) (T := TX8) (N := 10) hx hb hts hin_X8 hown hK hP 0 rfl rfl 3 (by decide) (hts (.fieldLink RX8 40 "BlockLog" "story" "LBlockLog$Story;") (by decide +kernel)) (fun _ h9 => h9) rfl dX8_slot_46 ?_
              refine lv_iload_n hx hb dX8_slot_49 rfl (lv_at hl 1 rfl) ?_
              have hFc := vfree ((cw_D hD : va_D A (cw_W c kc st lg ai al R)) : va_D A (cw_W c kc st lg ai al R)) hS hA
              refine va_callv (va_runV (As := [.int p0]) (rest := []) ⟨hx, hb, hml, hown, hts⟩ (v_X6_drawVersion l dC dI c kc st lg ai al R p0 _ (show 0 ≤ (st 15).toInt by omega) (show (st 15).toInt ≤ 1 by omega) (show 0 ≤ (st 25).toInt by omega) (show (st 25).toInt ≤ 128 by omega) (show 0 ≤ (st 26).toInt by omega) (show (st 26).toInt ≤ 128 by omega) (show 0 ≤ (st 28).toInt by omega) (show (st 28).toInt ≤ 1 by omega) (show aR (ai 23) 128 (0) 127 from hR23)) (cwV 1 hts gX8_slot_X6_drawVersion rfl rfl rfl (by decide +kernel) ⟨Nat.le_of_ble_eq_true rfl, Nat.le_of_ble_eq_true rfl⟩) ⟨fun a U g mk q => by obtain ⟨q0, q1, qP, qK, qD, qG⟩ := q; exact ⟨q0, q1, qP, va_K.moved (u := U) (U := U.calling g mk a) (Vm.Alike.refl U.vm) qK, qD, qG.same rfl rfl⟩, va_recv hK hP (ci := 8) (q := (RX6, TX6, 12)) rfl (q0 := 5) rfl, fun U hU hW => ⟨rfl, by rw [hU], by rw [hU]; exact hP, va_K.moved hW.alike hK, ((cw_D hD : va_D A (cw_W c kc st lg ai al R))).weaken (fun _ _ _ _ => trivial), hG.go hW hU hS hFc⟩⟩ rfl rfl hl.1 rfl (lv_room (Nat.le_of_ble_eq_true rfl)) dX8_slot_50 ⟨Nat.le_of_ble_eq_true rfl, Nat.le_of_ble_eq_true rfl⟩) hS (fun q _ h => hFc q h) hFc (fun ur_10 t H1 locs ht hvm er_10 hB hz1 hk1 hS => ?_)
              obtain ⟨g24_10, hP1⟩ := hB
              rw [ht] at hP1
              clear hFc hz1 hk1 hvm hP
              subst ht
              have hP := hP1
              clear hP1
              generalize t.heap = H at hP hS ⊢
              have hP : va_P (dC, dI) vwCl (cw_W c kc st lg ai (rU al 24 g24_10) R) H := hP
              refine lv_aload_n hx hb dX8_slot_53 rfl (lv_at hl 0 rfl) ?_
              refine va_get (D := (dC, dI)) (ci := 10) (v := .ref (c 105)) (C := RX8) (T := TX8) (N := 10) hx hb hts hin_X8 hown hK hP 0 rfl rfl 3 (by decide) (hts (.fieldLink RX8 40 "BlockLog" "story" "LBlockLog$Story;") (by decide +kernel)) (fun _ h9 => h9) rfl dX8_slot_54 ?_
              refine va_getN (D := (dC, dI)) (ci := 8) (v := .ref (c 24)) (C := RX6) (T := TX6) (N := 12) hx hb hts hin_X6 hown hK hP 5 rfl rfl 6 (by decide) (va_Nw.use rfl (hGW.1 ("BlockLog", 218, "BlockLog$Story", "slots", "[J", "BlockLog") (by decide +kernel))) (fun _ h9 => h9) rfl dX8_slot_57 ?_
              refine lv_iload_n hx hb dX8_slot_60 rfl (lv_at hl 2 rfl) ?_
              refine va_lald (f := g24_10) hx hb hK hP 20 12 rfl rfl (iv_in (i := p1) (by omega) (by omega)) dX8_slot_61 ?_
              refine lv_topl (fun w_11 ew_11 => ?_)
              have hX_story_slots := ew_11
              clear ew_11
              refine W.widen (k := 2) (n := 12) (Nat.le_of_ble_eq_true rfl) (Nat.le_of_ble_eq_true rfl) ?_
              refine vx_ret ?_
              exact W.lret hx hb hr (fun t ht hW => ⟨⟨_, _, rfl, rfl, g24_10, by rw [ht]; exact hP⟩, hS.F ht⟩) hS.2.2 dX8_slot_62
            · skip
              have ic_9 := iv_eq c_9
              exfalso
              omega
        · skip
          have ic_3 := iv_nlt c_3
          obtain ⟨sa, hstr⟩ := hGW.2.1 ("BlockLog", 116, "no such slot") (by decide +kernel)
          exact vx_throwS (names := ["java/lang/RuntimeException", "java/lang/Exception"]) hx hb hl0 hown (by decide +kernel) (by decide +kernel) (hts (.classLink RX8 76 "java/lang/IllegalArgumentException") (by decide +kernel)) (hts (.initialized "java/lang/IllegalArgumentException") (by decide +kernel)) hstr (vx_hat (B := gx_bad "java/lang/IllegalArgumentException") (fun w h => hts w (List.mem_cons_of_mem _ (List.mem_append_left _ (List.mem_append_right _ h)))) (by decide +kernel) (hGW.bad (by decide))) (by decide +kernel) hG.2.1 hG.2.2.1 hS (hl.1.trans hml.symm) dX8_slot_14 dX8_slot_17 dX8_slot_18 dX8_slot_20 dX8_slot_23 (fun x h => (hno x h).elim) (Nat.le_of_ble_eq_true rfl) (Nat.le_of_ble_eq_true rfl) (Nat.le_of_ble_eq_true rfl) (Nat.le_of_ble_eq_true rfl) hlocks (fun t _ h1 h2 => ⟨(), trivial, ⟨(by decide +kernel), al 24, hP.kept (fun k q hk => h2 _ (hP k q hk).lt)⟩, Nat.le_trans hS.1 h1, fun q hq hn => (h2 q (Nat.lt_of_lt_of_le hq hS.1)).trans (hS.2.1 q hq hn)⟩) hS.2.2 (Nat.le_of_ble_eq_true rfl) (Nat.le_of_ble_eq_true rfl)
  exact main s.heap [] hP hS

set_option maxHeartbeats 4000000 in
set_option maxRecDepth 100000 in
theorem v_X8_block (l : Launch) (hl0 : l.stackTraces = false) (dC : Nat → ClassId) (dI : Nat → Nat → Nat) (c : Nat → Nat) (kc : Nat → ClassId) (st : Nat → Int32) (lg : Nat → Int64) (ai : Nat → Nat → Int32) (al : Nat → Nat → Int64) (R : va_W) (p0 : Int32) (p1 : Int64) (sz : Nat) (hf3a : 0 ≤ (st 3).toInt) (hf3b : (st 3).toInt ≤ 8) (hf9a : 0 ≤ (st 9).toInt) (hf9b : (st 9).toInt ≤ 1) (hf15a : 0 ≤ (st 15).toInt) (hf15b : (st 15).toInt ≤ 1) (hf17a : 0 ≤ (st 17).toInt) (hf17b : (st 17).toInt ≤ 128) (hf25a : 0 ≤ (st 25).toInt) (hf25b : (st 25).toInt ≤ 128) (hf26a : 0 ≤ (st 26).toInt) (hf26b : (st 26).toInt ≤ 128) (hf27a : -1 ≤ (st 27).toInt) (hf27b : (st 27).toInt ≤ 127) (hf28a : 0 ≤ (st 28).toInt) (hf28b : (st 28).toInt ≤ 1) (hR7 : aR (ai 7) 8224 (-128) 127) (hR23 : aR (ai 23) 128 (0) 127) : vx_Met l yX8_block wsX8_block ({ frames := 7, cells := 2, slots := 12, locals := 149 }) (va_Pc [.ref (c 100), .int p0, .long p1] (fun U => U.heap.size = sz ∧ va_P (dC, dI) vwCl (cw_W c kc st lg ai al R) U.heap ∧ va_K (dC, dI) vwCl (cw_T kc) U ∧ va_D (fun _ => True) (cw_W c kc st lg ai al R) ∧ gx_E (va_A (cw_W c kc st lg ai al R) sz) U)) (va_Qi (fun r (u : Int32) => r = u) (fun u t => ∃ (x3 : Int32) (x9 : Int32) (x10 : Int32) (x11 : Int32) (x17 : Int32) (x25 : Int32) (x26 : Int32) (x27 : Int32) (x28 : Int32) (x29 : Int32) (f7 : Nat → Int32) (f8 : Nat → Int32) (f14 : Nat → Int32) (f20 : Nat → Int32) (f21 : Nat → Int32) (f22 : Nat → Int32) (f23 : Nat → Int32) (g19 : Nat → Int64), (0 ≤ x3.toInt) ∧ (x3.toInt ≤ 8) ∧ (0 ≤ x9.toInt) ∧ (x9.toInt ≤ 1) ∧ (0 ≤ x17.toInt) ∧ (x17.toInt ≤ 128) ∧ (0 ≤ x25.toInt) ∧ (x25.toInt ≤ 128) ∧ (0 ≤ x26.toInt) ∧ (x26.toInt ≤ 128) ∧ (-1 ≤ x27.toInt) ∧ (x27.toInt ≤ 127) ∧ (0 ≤ x28.toInt) ∧ (x28.toInt ≤ 1) ∧ (aR f7 8224 (-128) 127) ∧ (aR f23 128 (0) 127) ∧ va_P (dC, dI) vwCl (cw_W c kc (rU (rU (rU (rU (rU (rU (rU (rU (rU (rU st 3 x3) 9 x9) 10 x10) 11 x11) 17 x17) 25 x25) 26 x26) 27 x27) 28 x28) 29 x29) lg (rU (rU (rU (rU (rU (rU (rU ai 7 f7) 8 f8) 14 f14) 20 f20) 21 f21) 22 f22) 23 f23) (rU al 19 g19) R) t.heap) (va_A (cw_W c kc st lg ai al R) sz)) (vx_X (fun _ : Unit => True) (fun E _ t => E ∈ (["java/lang/IllegalArgumentException", "java/lang/IllegalStateException"] : List String) ∧ ∃ (x3 : Int32) (x9 : Int32) (x10 : Int32) (x11 : Int32) (x17 : Int32) (x25 : Int32) (x26 : Int32) (x27 : Int32) (x28 : Int32) (x29 : Int32) (f7 : Nat → Int32) (f8 : Nat → Int32) (f14 : Nat → Int32) (f20 : Nat → Int32) (f21 : Nat → Int32) (f22 : Nat → Int32) (f23 : Nat → Int32) (g19 : Nat → Int64), (0 ≤ x3.toInt) ∧ (x3.toInt ≤ 8) ∧ (0 ≤ x9.toInt) ∧ (x9.toInt ≤ 1) ∧ (0 ≤ x17.toInt) ∧ (x17.toInt ≤ 128) ∧ (0 ≤ x25.toInt) ∧ (x25.toInt ≤ 128) ∧ (0 ≤ x26.toInt) ∧ (x26.toInt ≤ 128) ∧ (-1 ≤ x27.toInt) ∧ (x27.toInt ≤ 127) ∧ (0 ≤ x28.toInt) ∧ (x28.toInt ≤ 1) ∧ (aR f7 8224 (-128) 127) ∧ (aR f23 128 (0) 127) ∧ va_P (dC, dI) vwCl (cw_W c kc (rU (rU (rU (rU (rU (rU (rU (rU (rU (rU st 3 x3) 9 x9) 10 x10) 11 x11) 17 x17) 25 x25) 26 x26) 27 x27) 28 x28) 29 x29) lg (rU (rU (rU (rU (rU (rU (rU ai 7 f7) 8 f8) 14 f14) 20 f20) 21 f21) 22 f22) 23 f23) (rU al 19 g19) R) t.heap) (va_A (cw_W c kc st lg ai al R) sz)) 2 12 (va_A (cw_W c kc st lg ai al R) sz) := by
  refine vx_ofW (cc := cX8_block) (maxL := 9) (ret := (some .int)) (by decide) rfl ?_
  intro p e s m args below meth cM s₁ B hml hno hv
  obtain ⟨rfl, hsz, hP, hK, hD0, hG⟩ := hv
  have hx := B.exec
  have hb := B.bytes
  have hr := B.returns
  have hts := atoms_spec (ws := wsX8_block) B.pre
  have hown : s.vm.findClass RX8 = some m.cls := findClass_of_methodNamed B.named
  have hGW := hG.1
  have hlocks := B.notSynchronized
  subst hsz
  have hD := hD0.self (sz := s.heap.size)
  generalize hAe : va_A (cw_W c kc st lg ai al R) s.heap.size = A at hD hG ⊢
  have hA : ∀ q : Nat, s.heap.size ≤ q → A q := fun q h => by rw [← hAe]; exact Or.inr h
  have hS : va_S A s.heap s.heap [] := va_S.rf
  clear hAe hD0
  have hl := lv_entry ([.ref (c 100), .int p0, .long p1]) (n := 9) (Nat.le_of_ble_eq_true rfl)
  rw [lg_entry_eq]
  generalize (lg_sl ([.ref (c 100), .int p0, .long p1]) ++ List.replicate (9 - (lg_sl ([.ref (c 100), .int p0, .long p1])).length) Slot.unset).toArray = ls at hl ⊢
  have hl : lv_has ls 9 [(0, .ref (c 100)), (1, .int p0), (2, .long p1)] := hl
  have z_m10 : (-10 : Int32).toInt = -10 := by decide
  have z_m6 : (-6 : Int32).toInt = -6 := by decide
  have z_m3 : (-3 : Int32).toInt = -3 := by decide
  have z_m2 : (-2 : Int32).toInt = -2 := by decide
  have z_m1 : (-1 : Int32).toInt = -1 := by decide
  have z_0 : (0 : Int32).toInt = 0 := by decide
  have z_1 : (1 : Int32).toInt = 1 := by decide
  have z_128 : (128 : Int32).toInt = 128 := by decide
  have hin_X4 : ∀ w ∈ u_ws RX4 TX4 6, w ∈ wsX8_block := by decide +kernel
  have hin_X8 : ∀ w ∈ u_ws RX8 TX8 10, w ∈ wsX8_block := by decide +kernel
  have main : ∀ (H : Heap) (locs : List Loc), va_P (dC, dI) vwCl (cw_W c kc st lg ai al R) H → va_S A s.heap H locs → W p l e (headSpec wsX8_block ({ frames := 7, cells := 2, slots := 12, locals := 149 })).room s m ([.ref (c 100), .int p0, .long p1] : List Value).toArray below meth cM H locs 0 0 (vx_MQ below (va_Qi (fun r (u : Int32) => r = u) (fun u t => ∃ (x3 : Int32) (x9 : Int32) (x10 : Int32) (x11 : Int32) (x17 : Int32) (x25 : Int32) (x26 : Int32) (x27 : Int32) (x28 : Int32) (x29 : Int32) (f7 : Nat → Int32) (f8 : Nat → Int32) (f14 : Nat → Int32) (f20 : Nat → Int32) (f21 : Nat → Int32) (f22 : Nat → Int32) (f23 : Nat → Int32) (g19 : Nat → Int64), (0 ≤ x3.toInt) ∧ (x3.toInt ≤ 8) ∧ (0 ≤ x9.toInt) ∧ (x9.toInt ≤ 1) ∧ (0 ≤ x17.toInt) ∧ (x17.toInt ≤ 128) ∧ (0 ≤ x25.toInt) ∧ (x25.toInt ≤ 128) ∧ (0 ≤ x26.toInt) ∧ (x26.toInt ≤ 128) ∧ (-1 ≤ x27.toInt) ∧ (x27.toInt ≤ 127) ∧ (0 ≤ x28.toInt) ∧ (x28.toInt ≤ 1) ∧ (aR f7 8224 (-128) 127) ∧ (aR f23 128 (0) 127) ∧ va_P (dC, dI) vwCl (cw_W c kc (rU (rU (rU (rU (rU (rU (rU (rU (rU (rU st 3 x3) 9 x9) 10 x10) 11 x11) 17 x17) 25 x25) 26 x26) 27 x27) 28 x28) 29 x29) lg (rU (rU (rU (rU (rU (rU (rU ai 7 f7) 8 f8) 14 f14) 20 f20) 21 f21) 22 f22) 23 f23) (rU al 19 g19) R) t.heap) A) (vx_X (fun _ : Unit => True) (fun E _ t => E ∈ (["java/lang/IllegalArgumentException", "java/lang/IllegalStateException"] : List String) ∧ ∃ (x3 : Int32) (x9 : Int32) (x10 : Int32) (x11 : Int32) (x17 : Int32) (x25 : Int32) (x26 : Int32) (x27 : Int32) (x28 : Int32) (x29 : Int32) (f7 : Nat → Int32) (f8 : Nat → Int32) (f14 : Nat → Int32) (f20 : Nat → Int32) (f21 : Nat → Int32) (f22 : Nat → Int32) (f23 : Nat → Int32) (g19 : Nat → Int64), (0 ≤ x3.toInt) ∧ (x3.toInt ≤ 8) ∧ (0 ≤ x9.toInt) ∧ (x9.toInt ≤ 1) ∧ (0 ≤ x17.toInt) ∧ (x17.toInt ≤ 128) ∧ (0 ≤ x25.toInt) ∧ (x25.toInt ≤ 128) ∧ (0 ≤ x26.toInt) ∧ (x26.toInt ≤ 128) ∧ (-1 ≤ x27.toInt) ∧ (x27.toInt ≤ 127) ∧ (0 ≤ x28.toInt) ∧ (x28.toInt ≤ 1) ∧ (aR f7 8224 (-128) 127) ∧ (aR f23 128 (0) 127) ∧ va_P (dC, dI) vwCl (cw_W c kc (rU (rU (rU (rU (rU (rU (rU (rU (rU (rU st 3 x3) 9 x9) 10 x10) 11 x11) 17 x17) 25 x25) 26 x26) 27 x27) 28 x28) 29 x29) lg (rU (rU (rU (rU (rU (rU (rU ai 7 f7) 8 f8) 14 f14) 20 f20) 21 f21) 22 f22) 23 f23) (rU al 19 g19) R) t.heap) A) ([.ref (c 100), .int p0, .long p1] : List Value).toArray s 2 12 A) (F0 m 0 ls []) := by
    intro H locs hP hS
    refine lv_aload_n hx hb dX8_block_0 rfl (lv_at hl 0 rfl) ?_
    have hFc := vfree ((cw_D hD : va_D A (cw_W c kc st lg ai al R)) : va_D A (cw_W c kc st lg ai al R)) hS hA
    refine vx_callv (vx_runV (As := []) (rest := []) ⟨hx, hb, hml, hown, hts⟩ (v_X8_demandPower l hl0 dC dI c kc st lg ai al R  _ (show 0 ≤ (st 9).toInt by omega) (show (st 9).toInt ≤ 1 by omega)) (cwV 0 hts gX8_block_X8_demandPower rfl rfl rfl (by decide +kernel) ⟨Nat.le_of_ble_eq_true rfl, Nat.le_of_ble_eq_true rfl⟩) ⟨fun a U g mk q => by obtain ⟨q0, q1, qP, qK, qD, qG⟩ := q; exact ⟨q0, q1, qP, va_K.moved (u := U) (U := U.calling g mk a) (Vm.Alike.refl U.vm) qK, qD, qG.same rfl rfl⟩, va_recv hK hP (ci := 10) (q := (RX8, TX8, 10)) rfl (q0 := 0) rfl, fun U hU hW => ⟨rfl, by rw [hU], by rw [hU]; exact hP, va_K.moved hW.alike hK, ((cw_D hD : va_D A (cw_W c kc st lg ai al R))).weaken (fun _ _ _ _ => trivial), hG.go hW hU hS hFc⟩⟩ rfl rfl hl.1 rfl (lv_room (Nat.le_of_ble_eq_true rfl)) dX8_block_1 ⟨Nat.le_of_ble_eq_true rfl, Nat.le_of_ble_eq_true rfl⟩) hS (fun q _ h => hFc q h) hFc (fun q _ h => hFc q h) (fun E9 ce q9 u t H1 locs ht hvm hp hE hz hk hS hcell hv hcl => ?_) (fun ur_1 t H1 locs ht hvm er_1 hB hz1 hk1 hS => ?_)
    · skip
      obtain ⟨hE, hP1⟩ := hE
      rw [ht] at hP1
      have hP : va_P (dC, dI) vwCl (cw_W c kc st lg ai al R) H1 := hP1
      exact vx_out (fun x h => (hno x h).elim) hlocks hcell hv hcl (fun t ht hW => ⟨(), trivial, ⟨(show ∀ x ∈ (["java/lang/IllegalStateException"] : List String), x ∈ (["java/lang/IllegalArgumentException", "java/lang/IllegalStateException"] : List String) by decide +kernel) _ hE, st 3, st 9, st 10, st 11, st 17, st 25, st 26, st 27, st 28, st 29, ai 7, ai 8, ai 14, ai 20, ai 21, ai 22, ai 23, al 19, (by omega), (by omega), (by omega), (by omega), (by omega), (by omega), (by omega), (by omega), (by omega), (by omega), (by omega), (by omega), (by omega), (by omega), hR7, hR23, by rw [ht]; exact hP⟩, hS.F ht⟩) hS.2.2 (Nat.le_of_ble_eq_true rfl) (Nat.le_of_ble_eq_true rfl)
    · skip
      have hP1 : va_P (dC, dI) vwCl (cw_W c kc st lg ai al R) t.heap := hB
      rw [ht] at hP1
      clear hFc hz1 hk1 hvm hP
      subst ht
      have hP := hP1
      clear hP1
      generalize t.heap = H at hP hS ⊢
      have hP : va_P (dC, dI) vwCl (cw_W c kc st lg ai al R) H := hP
      refine lv_iload_n hx hb dX8_block_4 rfl (lv_at hl 1 rfl) ?_
      have hFc := vfree ((cw_D hD : va_D A (cw_W c kc st lg ai al R)) : va_D A (cw_W c kc st lg ai al R)) hS hA
      refine vx_callv (vx_runS (As := [.int p0]) (rest := []) ⟨hx, hb, hml, hown, hts⟩ (v_X8_demandHeight l hl0 dC dI c kc st lg ai al R p0 _ ) (va_cwS 1 hts gX8_block_X8_demandHeight rfl rfl rfl (by decide +kernel) ⟨Nat.le_of_ble_eq_true rfl, Nat.le_of_ble_eq_true rfl⟩) ⟨fun a U g mk q => by obtain ⟨q0, q1, qP, qK, qD, qG⟩ := q; exact ⟨q0, q1, qP, va_K.moved (u := U) (U := U.calling g mk a) (Vm.Alike.refl U.vm) qK, qD, qG.same rfl rfl⟩, fun U hU hW => ⟨rfl, by rw [hU], by rw [hU]; exact hP, va_K.moved hW.alike hK, ((cw_D hD : va_D A (cw_W c kc st lg ai al R))).weaken (fun _ _ _ _ => trivial), hG.go hW hU hS hFc⟩⟩ rfl rfl hl.1 rfl (lv_room (Nat.le_of_ble_eq_true rfl)) dX8_block_5 ⟨Nat.le_of_ble_eq_true rfl, Nat.le_of_ble_eq_true rfl⟩) hS (fun q _ h => hFc q h) hFc (fun q _ h => hFc q h) (fun E9 ce q9 u t H1 locs ht hvm hp hE hz hk hS hcell hv hcl => ?_) (fun ur_2 t H1 locs ht hvm er_2 hB hz1 hk1 hS => ?_)
      · skip
        obtain ⟨hE, hP1⟩ := hE
        rw [ht] at hP1
        have hP : va_P (dC, dI) vwCl (cw_W c kc st lg ai al R) H1 := hP1
        exact vx_out (fun x h => (hno x h).elim) hlocks hcell hv hcl (fun t ht hW => ⟨(), trivial, ⟨(show ∀ x ∈ (["java/lang/IllegalArgumentException"] : List String), x ∈ (["java/lang/IllegalArgumentException", "java/lang/IllegalStateException"] : List String) by decide +kernel) _ hE, st 3, st 9, st 10, st 11, st 17, st 25, st 26, st 27, st 28, st 29, ai 7, ai 8, ai 14, ai 20, ai 21, ai 22, ai 23, al 19, (by omega), (by omega), (by omega), (by omega), (by omega), (by omega), (by omega), (by omega), (by omega), (by omega), (by omega), (by omega), (by omega), (by omega), hR7, hR23, by rw [ht]; exact hP⟩, hS.F ht⟩) hS.2.2 (Nat.le_of_ble_eq_true rfl) (Nat.le_of_ble_eq_true rfl)
      · skip
        have hP1 : va_P (dC, dI) vwCl (cw_W c kc st lg ai al R) t.heap := hB
        rw [ht] at hP1
        clear hFc hz1 hk1 hvm hP
        subst ht
        have hP := hP1
        clear hP1
        generalize t.heap = H at hP hS ⊢
        have hP : va_P (dC, dI) vwCl (cw_W c kc st lg ai al R) H := hP
        refine lv_aload_n hx hb dX8_block_8 rfl (lv_at hl 0 rfl) ?_
        refine va_get (D := (dC, dI)) (ci := 10) (v := .ref (c 104)) (C := RX8) (T := TX8) (N := 10) hx hb hts hin_X8 hown hK hP 0 rfl rfl 2 (by decide) (hts (.fieldLink RX8 31 "BlockLog" "rows" "LBlockLog$Rows;") (by decide +kernel)) (fun _ h9 => h9) rfl dX8_block_9 ?_
        refine vp_callSi (va_Run.run (va_runV (As := []) (rest := []) ⟨hx, hb, hml, hown, hts⟩ (v_X4_inNeed l dC dI c kc st lg ai al R  ) (cwV 0 hts gX8_block_X4_inNeed rfl rfl rfl (by decide +kernel) ⟨Nat.le_of_ble_eq_true rfl, Nat.le_of_ble_eq_true rfl⟩) ⟨fun a U g mk q => by obtain ⟨q0, qP, qK⟩ := q; exact ⟨q0, qP, va_K.moved (u := U) (U := U.calling g mk a) (Vm.Alike.refl U.vm) qK⟩, va_recv hK hP (ci := 6) (q := (RX4, TX4, 6)) rfl (q0 := 4) rfl, fun U hU hW => ⟨rfl, by rw [hU]; exact hP, va_K.moved hW.alike hK⟩⟩ rfl rfl hl.1 rfl (lv_room (Nat.le_of_ble_eq_true rfl)) dX8_block_12 ⟨Nat.le_of_ble_eq_true rfl, Nat.le_of_ble_eq_true rfl⟩)) (fun r_3 er_3 => ?_)
        obtain ⟨k_4, k_5⟩ := er_3
        rcases iv_01 (a := r_3) (by omega) (by omega) with b_6 | b_6
        · skip
          have ib_6 := iv_eq b_6
          rw [b_6]
          refine lv_if_eq (tgt := 21) hx hb dX8_block_15 (by decide) (fun c_7 => ?_) (fun c_7 => ?_)
          · skip
            have ic_7 := iv_eq c_7
            refine lv_aload_n hx hb dX8_block_21 rfl (lv_at hl 0 rfl) ?_
            refine va_get (D := (dC, dI)) (ci := 10) (v := .ref (c 105)) (C := RX8) (T := TX8) (N := 10) hx hb hts hin_X8 hown hK hP 0 rfl rfl 3 (by decide) (hts (.fieldLink RX8 40 "BlockLog" "story" "LBlockLog$Story;") (by decide +kernel)) (fun _ h9 => h9) rfl dX8_block_22 ?_
            refine lv_lload_n hx hb dX8_block_25 rfl (lv_at hl 2 rfl) ?_
            refine vp_callSl (va_Run.run (va_runV (As := [.long p1]) (rest := []) ⟨hx, hb, hml, hown, hts⟩ (v_X6_meant l dC dI c kc st lg ai al R p1 (show 0 ≤ (st 25).toInt by omega) (show (st 25).toInt ≤ 128 by omega)) (cwV 1 hts gX8_block_X6_meant rfl rfl rfl (by decide +kernel) ⟨Nat.le_of_ble_eq_true rfl, Nat.le_of_ble_eq_true rfl⟩) ⟨fun a U g mk q => by obtain ⟨q0, qP, qK⟩ := q; exact ⟨q0, qP, va_K.moved (u := U) (U := U.calling g mk a) (Vm.Alike.refl U.vm) qK⟩, va_recv hK hP (ci := 8) (q := (RX6, TX6, 12)) rfl (q0 := 5) rfl, fun U hU hW => ⟨rfl, by rw [hU]; exact hP, va_K.moved hW.alike hK⟩⟩ rfl rfl hl.1 rfl (lv_room (Nat.le_of_ble_eq_true rfl)) dX8_block_26 ⟨Nat.le_of_ble_eq_true rfl, Nat.le_of_ble_eq_true rfl⟩)) (fun r_8 er_8 => ?_)
            refine lv_lstore (lv' := [(4, .long r_8), (0, .ref (c 100)), (1, .int p0), (2, .long p1)]) hx hb dX8_block_29 hl (by decide) rfl (fun ls hl => ?_)
            refine lv_aload_n hx hb dX8_block_31 rfl (lv_at hl 1 rfl) ?_
            refine va_get (D := (dC, dI)) (ci := 10) (v := .ref (c 105)) (C := RX8) (T := TX8) (N := 10) hx hb hts hin_X8 hown hK hP 0 rfl rfl 3 (by decide) (hts (.fieldLink RX8 40 "BlockLog" "story" "LBlockLog$Story;") (by decide +kernel)) (fun _ h9 => h9) rfl dX8_block_32 ?_
            refine lv_lload hx hb dX8_block_35 (lv_at hl 0 rfl) ?_
            refine vp_callSi (va_Run.run (va_runV (As := [.long r_8]) (rest := []) ⟨hx, hb, hml, hown, hts⟩ (v_X6_heightOfParent l dC dI c kc st lg ai al R r_8 (show 0 ≤ (st 15).toInt by omega) (show (st 15).toInt ≤ 1 by omega) (show 0 ≤ (st 25).toInt by omega) (show (st 25).toInt ≤ 128 by omega) (show 0 ≤ (st 28).toInt by omega) (show (st 28).toInt ≤ 1 by omega)) (cwV 1 hts gX8_block_X6_heightOfParent rfl rfl rfl (by decide +kernel) ⟨Nat.le_of_ble_eq_true rfl, Nat.le_of_ble_eq_true rfl⟩) ⟨fun a U g mk q => by obtain ⟨q0, qP, qK, qG⟩ := q; exact ⟨q0, qP, va_K.moved (u := U) (U := U.calling g mk a) (Vm.Alike.refl U.vm) qK, qG.same rfl⟩, va_recv hK hP (ci := 8) (q := (RX6, TX6, 12)) rfl (q0 := 5) rfl, fun U hU hW => ⟨rfl, by rw [hU]; exact hP, va_K.moved hW.alike hK, hGW.warm hW⟩⟩ rfl rfl hl.1 rfl (lv_room (Nat.le_of_ble_eq_true rfl)) dX8_block_37 ⟨Nat.le_of_ble_eq_true rfl, Nat.le_of_ble_eq_true rfl⟩)) (fun r_9 er_9 => ?_)
            refine lv_istore (lv' := [(6, .int r_9), (4, .long r_8), (0, .ref (c 100)), (1, .int p0), (2, .long p1)]) hx hb dX8_block_40 hl (by decide) rfl (fun ls hl => ?_)
            refine lv_iload hx hb dX8_block_42 (lv_at hl 0 rfl) ?_
            refine lv_iconst (v := (-1)) hx hb dX8_block_44 (by decide) ?_
            refine lv_icmp_ne (tgt := 51) hx hb dX8_block_45 (by decide) (fun c_10 => ?_) (fun c_10 => ?_)
            · skip
              have ic_10 := iv_ne c_10
              refine lv_iload_n hx hb dX8_block_51 rfl (lv_at hl 3 rfl) ?_
              refine lv_iload hx hb dX8_block_52 (lv_at hl 0 rfl) ?_
              refine lv_iconst (v := 1) hx hb dX8_block_54 (by decide) ?_
              refine lv_iadd hx hb dX8_block_55 ?_
              refine lv_topi (fun v_11 ev_11 => ?_)
              clear ev_11
              refine lv_icmp_eq (tgt := 62) hx hb dX8_block_56 (by decide) (fun c_12 => ?_) (fun c_12 => ?_)
              · skip
                have ic_12 := iv_eq c_12
                refine lv_aload_n hx hb dX8_block_62 rfl (lv_at hl 2 rfl) ?_
                refine va_get (D := (dC, dI)) (ci := 10) (v := .ref (c 105)) (C := RX8) (T := TX8) (N := 10) hx hb hts hin_X8 hown hK hP 0 rfl rfl 3 (by decide) (hts (.fieldLink RX8 40 "BlockLog" "story" "LBlockLog$Story;") (by decide +kernel)) (fun _ h9 => h9) rfl dX8_block_63 ?_
                refine lv_aload_n hx hb dX8_block_66 rfl (lv_at hl 2 rfl) ?_
                refine lv_iload_n hx hb dX8_block_67 rfl (lv_at hl 3 rfl) ?_
                refine lv_lload hx hb dX8_block_68 (lv_at hl 1 rfl) ?_
                refine vp_callSl (va_Run.run (va_runV (As := [.int p0, .long r_8]) (rest := [.ref (c 105)]) ⟨hx, hb, hml, hown, hts⟩ (v_X8_collectedDigest l dC dI c kc st lg ai al R p0 r_8 (show 0 ≤ (st 3).toInt by omega) (show (st 3).toInt ≤ 8 by omega)) (cwV 2 hts gX8_block_X8_collectedDigest rfl rfl rfl (by decide +kernel) ⟨Nat.le_of_ble_eq_true rfl, Nat.le_of_ble_eq_true rfl⟩) ⟨fun a U g mk q => by obtain ⟨q0, qP, qK⟩ := q; exact ⟨q0, qP, va_K.moved (u := U) (U := U.calling g mk a) (Vm.Alike.refl U.vm) qK⟩, va_recv hK hP (ci := 10) (q := (RX8, TX8, 10)) rfl (q0 := 0) rfl, fun U hU hW => ⟨rfl, by rw [hU]; exact hP, va_K.moved hW.alike hK⟩⟩ rfl rfl hl.1 rfl (lv_room (Nat.le_of_ble_eq_true rfl)) dX8_block_70 ⟨Nat.le_of_ble_eq_true rfl, Nat.le_of_ble_eq_true rfl⟩)) (fun r_13 er_13 => ?_)
                refine vp_callSi (va_Run.run (va_runV (As := [.long r_13]) (rest := []) ⟨hx, hb, hml, hown, hts⟩ (v_X6_blockRow l dC dI c kc st lg ai al R r_13 (show 0 ≤ (st 25).toInt by omega) (show (st 25).toInt ≤ 128 by omega)) (cwV 1 hts gX8_block_X6_blockRow rfl rfl rfl (by decide +kernel) ⟨Nat.le_of_ble_eq_true rfl, Nat.le_of_ble_eq_true rfl⟩) ⟨fun a U g mk q => by obtain ⟨q0, qP, qK⟩ := q; exact ⟨q0, qP, va_K.moved (u := U) (U := U.calling g mk a) (Vm.Alike.refl U.vm) qK⟩, va_recv hK hP (ci := 8) (q := (RX6, TX6, 12)) rfl (q0 := 5) rfl, fun U hU hW => ⟨rfl, by rw [hU]; exact hP, va_K.moved hW.alike hK⟩⟩ rfl rfl hl.1 rfl (lv_room (Nat.le_of_ble_eq_true rfl)) dX8_block_73 ⟨Nat.le_of_ble_eq_true rfl, Nat.le_of_ble_eq_true rfl⟩)) (fun r_14 er_14 => ?_)
                obtain ⟨k_15, k_16⟩ := er_14
                have k_16 : r_14.toInt < (st 25).toInt := k_16
                refine lv_istore (lv' := [(7, .int r_14), (6, .int r_9), (4, .long r_8), (0, .ref (c 100)), (1, .int p0), (2, .long p1)]) hx hb dX8_block_76 hl (by decide) rfl (fun ls hl => ?_)
                refine lv_iload hx hb dX8_block_78 (lv_at hl 0 rfl) ?_
                refine lv_iconst (v := (-1)) hx hb dX8_block_80 (by decide) ?_
                refine lv_icmp_ne (tgt := 107) hx hb dX8_block_81 (by decide) (fun c_17 => ?_) (fun c_17 => ?_)
                · skip
                  have ic_17 := iv_ne c_17
                  refine lv_aload_n hx hb dX8_block_107 rfl (lv_at hl 3 rfl) ?_
                  refine va_get (D := (dC, dI)) (ci := 10) (v := .int (st 3)) (C := RX8) (T := TX8) (N := 10) hx hb hts hin_X8 hown hK hP 0 rfl rfl 9 (by decide) (hts (.fieldLink RX8 72 "BlockLog" "collected" "I") (by decide +kernel)) (fun _ h9 => h9) rfl dX8_block_108 ?_
                  refine lv_istore (lv' := [(8, .int (st 3)), (7, .int r_14), (6, .int r_9), (4, .long r_8), (0, .ref (c 100)), (1, .int p0), (2, .long p1)]) hx hb dX8_block_111 hl (by decide) rfl (fun ls hl => ?_)
                  refine lv_aload_n hx hb dX8_block_113 rfl (lv_at hl 4 rfl) ?_
                  refine lv_iconst (v := 0) hx hb dX8_block_114 (by decide) ?_
                  refine va_put (D := (dC, dI)) (ci := 10) (v := .int (0 : Int32)) (ty := .int) (C := RX8) (T := TX8) (N := 10) hx hb hts hin_X8 tyX8 tyX8_ok nmX8 hown hK hP (cw_D hD) hS 0 rfl rfl 9 (by decide) (hts (.fieldLink RX8 72 "BlockLog" "collected" "I") (by decide +kernel)) (fun _ h9 => h9) rfl (by decide +kernel) rfl rfl (Nat.le_of_ble_eq_true rfl) dX8_block_115 (fun H locs hP _ hS => ?_)
                  have hP : va_P (dC, dI) vwCl (cw_W c kc (rU st 3 (0 : Int32)) lg ai al R) H := hP
                  refine lv_iload hx hb dX8_block_118 (lv_at hl 1 rfl) ?_
                  refine lv_iconst (v := (-1)) hx hb dX8_block_120 (by decide) ?_
                  refine lv_icmp_eq (tgt := 129) hx hb dX8_block_121 (by decide) (fun c_18 => ?_) (fun c_18 => ?_)
                  · skip
                    have ic_18 := iv_eq c_18
                    exfalso
                    omega
                  · skip
                    have ic_18 := iv_ne c_18
                    refine lv_iload hx hb dX8_block_124 (lv_at hl 1 rfl) ?_
                    refine lv_goto (tgt := 138) hx hb dX8_block_126 (by decide) ?_
                    refine W.widen (k := 2) (n := 12) (Nat.le_of_ble_eq_true rfl) (Nat.le_of_ble_eq_true rfl) ?_
                    refine vx_ret ?_
                    exact W.iret hx hb hr (fun t ht hW => ⟨⟨_, _, rfl, rfl, (0 : Int32), st 9, st 10, st 11, st 17, st 25, st 26, st 27, st 28, st 29, ai 7, ai 8, ai 14, ai 20, ai 21, ai 22, ai 23, al 19, (by omega), (by omega), (by omega), (by omega), (by omega), (by omega), (by omega), (by omega), (by omega), (by omega), (by omega), (by omega), (by omega), (by omega), hR7, hR23, by rw [ht]; exact hP⟩, hS.F ht⟩) hS.2.2 dX8_block_138
                · skip
                  have ic_17 := iv_eq c_17
                  refine lv_aload_n hx hb dX8_block_84 rfl (lv_at hl 3 rfl) ?_
                  refine va_get (D := (dC, dI)) (ci := 10) (v := .ref (c 104)) (C := RX8) (T := TX8) (N := 10) hx hb hts hin_X8 hown hK hP 0 rfl rfl 2 (by decide) (hts (.fieldLink RX8 31 "BlockLog" "rows" "LBlockLog$Rows;") (by decide +kernel)) (fun _ h9 => h9) rfl dX8_block_85 ?_
                  refine va_getN (D := (dC, dI)) (ci := 6) (v := .int (st 17)) (C := RX4) (T := TX4) (N := 6) hx hb hts hin_X4 hown hK hP 4 rfl rfl 4 (by decide) (va_Nw.use rfl (hGW.1 ("BlockLog", 151, "BlockLog$Rows", "count", "I", "BlockLog") (by decide +kernel))) (fun _ h9 => h9) rfl dX8_block_88 ?_
                  refine lv_iconst (v := 1) hx hb dX8_block_91 (by decide) ?_
                  refine lv_iadd hx hb dX8_block_92 ?_
                  refine lv_topi (fun v_19 ev_19 => ?_)
                  have rg1 := iv_rng (st 17)
                  have hv_19 : v_19.toInt = (st 17).toInt + 1 := by rw [ev_19]; exact (iv_add (by omega) (by omega)).trans (by omega)
                  clear ev_19
                  refine lv_aload_n hx hb dX8_block_93 rfl (lv_at hl 3 rfl) ?_
                  refine va_get (D := (dC, dI)) (ci := 10) (v := .int (st 3)) (C := RX8) (T := TX8) (N := 10) hx hb hts hin_X8 hown hK hP 0 rfl rfl 9 (by decide) (hts (.fieldLink RX8 72 "BlockLog" "collected" "I") (by decide +kernel)) (fun _ h9 => h9) rfl dX8_block_94 ?_
                  refine lv_iadd hx hb dX8_block_97 ?_
                  refine lv_topi (fun v_20 ev_20 => ?_)
                  have rg2 := iv_rng v_19
                  have rg3 := iv_rng (st 3)
                  have hv_20 : v_20.toInt = v_19.toInt + (st 3).toInt := by rw [ev_20]; exact (iv_add (by omega) (by omega)).trans (by omega)
                  clear ev_20
                  refine lv_sipush (v := 128) hx hb dX8_block_98 (by decide) ?_
                  refine lv_icmp_le (tgt := 107) hx hb dX8_block_101 (by decide) (fun c_21 => ?_) (fun c_21 => ?_)
                  · skip
                    have ic_21 := iv_le c_21
                    refine lv_aload_n hx hb dX8_block_107 rfl (lv_at hl 3 rfl) ?_
                    refine va_get (D := (dC, dI)) (ci := 10) (v := .int (st 3)) (C := RX8) (T := TX8) (N := 10) hx hb hts hin_X8 hown hK hP 0 rfl rfl 9 (by decide) (hts (.fieldLink RX8 72 "BlockLog" "collected" "I") (by decide +kernel)) (fun _ h9 => h9) rfl dX8_block_108 ?_
                    refine lv_istore (lv' := [(8, .int (st 3)), (7, .int r_14), (6, .int r_9), (4, .long r_8), (0, .ref (c 100)), (1, .int p0), (2, .long p1)]) hx hb dX8_block_111 hl (by decide) rfl (fun ls hl => ?_)
                    refine lv_aload_n hx hb dX8_block_113 rfl (lv_at hl 4 rfl) ?_
                    refine lv_iconst (v := 0) hx hb dX8_block_114 (by decide) ?_
                    refine va_put (D := (dC, dI)) (ci := 10) (v := .int (0 : Int32)) (ty := .int) (C := RX8) (T := TX8) (N := 10) hx hb hts hin_X8 tyX8 tyX8_ok nmX8 hown hK hP (cw_D hD) hS 0 rfl rfl 9 (by decide) (hts (.fieldLink RX8 72 "BlockLog" "collected" "I") (by decide +kernel)) (fun _ h9 => h9) rfl (by decide +kernel) rfl rfl (Nat.le_of_ble_eq_true rfl) dX8_block_115 (fun H locs hP _ hS => ?_)
                    have hP : va_P (dC, dI) vwCl (cw_W c kc (rU st 3 (0 : Int32)) lg ai al R) H := hP
                    refine lv_iload hx hb dX8_block_118 (lv_at hl 1 rfl) ?_
                    refine lv_iconst (v := (-1)) hx hb dX8_block_120 (by decide) ?_
                    refine lv_icmp_eq (tgt := 129) hx hb dX8_block_121 (by decide) (fun c_22 => ?_) (fun c_22 => ?_)
                    · skip
                      have ic_22 := iv_eq c_22
                      refine lv_aload_n hx hb dX8_block_129 rfl (lv_at hl 4 rfl) ?_
                      refine lv_iload_n hx hb dX8_block_130 rfl (lv_at hl 5 rfl) ?_
                      refine lv_lload hx hb dX8_block_131 (lv_at hl 3 rfl) ?_
                      refine lv_iload hx hb dX8_block_133 (lv_at hl 0 rfl) ?_
                      have hFc := vfree ((cw_D hD : va_D A (cw_W c kc (rU st 3 (0 : Int32)) lg ai al R)) : va_D A (cw_W c kc (rU st 3 (0 : Int32)) lg ai al R)) hS hA
                      refine va_calli (va_runV (As := [.int p0, .long r_8, .int (st 3)]) (rest := []) ⟨hx, hb, hml, hown, hts⟩ (v_X8_writeBlock l dC dI c kc (rU st 3 (0 : Int32)) lg ai al R p0 r_8 (st 3) _ (show 0 ≤ (st 9).toInt by omega) (show (st 9).toInt ≤ 1 by omega) (show 0 ≤ (st 15).toInt by omega) (show (st 15).toInt ≤ 1 by omega) (show 0 ≤ (st 17).toInt by omega) (show (st 17).toInt ≤ 128 by omega) (show 0 ≤ (st 25).toInt by omega) (show (st 25).toInt ≤ 128 by omega) (show 0 ≤ (st 26).toInt by omega) (show (st 26).toInt ≤ 128 by omega) (show -1 ≤ (st 27).toInt by omega) (show (st 27).toInt ≤ 127 by omega) (show 0 ≤ (st 28).toInt by omega) (show (st 28).toInt ≤ 1 by omega) (by omega) (by omega) (show aR (ai 7) 8224 (-128) 127 from hR7) (show aR (ai 23) 128 (0) 127 from hR23)) (cwV 3 hts gX8_block_X8_writeBlock rfl rfl rfl (by decide +kernel) ⟨Nat.le_of_ble_eq_true rfl, Nat.le_of_ble_eq_true rfl⟩) ⟨fun a U g mk q => by obtain ⟨q0, q1, qP, qK, qD, qG⟩ := q; exact ⟨q0, q1, qP, va_K.moved (u := U) (U := U.calling g mk a) (Vm.Alike.refl U.vm) qK, qD, qG.same rfl rfl⟩, va_recv hK hP (ci := 10) (q := (RX8, TX8, 10)) rfl (q0 := 0) rfl, fun U hU hW => ⟨rfl, by rw [hU], by rw [hU]; exact hP, va_K.moved hW.alike hK, ((cw_D hD : va_D A (cw_W c kc (rU st 3 (0 : Int32)) lg ai al R))).weaken (fun _ _ _ _ => trivial), hG.go hW hU hS hFc⟩⟩ rfl rfl hl.1 rfl (lv_room (Nat.le_of_ble_eq_true rfl)) dX8_block_135 ⟨Nat.le_of_ble_eq_true rfl, Nat.le_of_ble_eq_true rfl⟩) hS (fun q _ h => hFc q h) hFc (fun r_23 ur_23 t H1 locs ht hvm er_23 hB hz1 hk1 hS => ?_)
                      subst er_23
                      obtain ⟨x9_23, x10_23, x11_23, x17_23, x25_23, x26_23, x27_23, x28_23, x29_23, f7_23, f8_23, f14_23, f20_23, f21_23, f22_23, f23_23, g19_23, k_24, k_25, k_26, k_27, k_28, k_29, k_30, k_31, k_32, k_33, k_34, k_35, hR7, hR23, hP1⟩ := hB
                      rw [ht] at hP1
                      clear hFc hz1 hk1 hvm hP
                      subst ht
                      have hP := hP1
                      clear hP1
                      generalize t.heap = H at hP hS ⊢
                      have hP : va_P (dC, dI) vwCl (cw_W c kc (rU (rU (rU (rU (rU (rU (rU (rU (rU (rU st 3 (0 : Int32)) 9 x9_23) 10 x10_23) 11 x11_23) 17 x17_23) 25 x25_23) 26 x26_23) 27 x27_23) 28 x28_23) 29 x29_23) lg (rU (rU (rU (rU (rU (rU (rU ai 7 f7_23) 8 f8_23) 14 f14_23) 20 f20_23) 21 f21_23) 22 f22_23) 23 f23_23) (rU al 19 g19_23) R) H := hP
                      have k_24 : 0 ≤ x9_23.toInt := k_24
                      have k_25 : x9_23.toInt ≤ 1 := k_25
                      have k_26 : 0 ≤ x17_23.toInt := k_26
                      have k_27 : x17_23.toInt ≤ 128 := k_27
                      have k_28 : 0 ≤ x25_23.toInt := k_28
                      have k_29 : x25_23.toInt ≤ 128 := k_29
                      have k_30 : 0 ≤ x26_23.toInt := k_30
                      have k_31 : x26_23.toInt ≤ 128 := k_31
                      have k_32 : -1 ≤ x27_23.toInt := k_32
                      have k_33 : x27_23.toInt ≤ 127 := k_33
                      have k_34 : 0 ≤ x28_23.toInt := k_34
                      have k_35 : x28_23.toInt ≤ 1 := k_35
                      have hR7 : aR f7_23 8224 (-128) 127 := hR7
                      have hR23 : aR f23_23 128 (0) 127 := hR23
                      refine W.widen (k := 2) (n := 12) (Nat.le_of_ble_eq_true rfl) (Nat.le_of_ble_eq_true rfl) ?_
                      refine vx_ret ?_
                      exact W.iret hx hb hr (fun t ht hW => ⟨⟨_, _, rfl, rfl, (0 : Int32), x9_23, x10_23, x11_23, x17_23, x25_23, x26_23, x27_23, x28_23, x29_23, f7_23, f8_23, f14_23, f20_23, f21_23, f22_23, f23_23, g19_23, (by omega), (by omega), (by omega), (by omega), (by omega), (by omega), (by omega), (by omega), (by omega), (by omega), (by omega), (by omega), (by omega), (by omega), hR7, hR23, by rw [ht]; exact hP⟩, hS.F ht⟩) hS.2.2 dX8_block_138
                    · skip
                      have ic_22 := iv_ne c_22
                      exfalso
                      omega
                  · skip
                    have ic_21 := iv_nle c_21
                    refine lv_bipush (v := (-2)) hx hb dX8_block_104 (by decide) ?_
                    refine W.widen (k := 2) (n := 12) (Nat.le_of_ble_eq_true rfl) (Nat.le_of_ble_eq_true rfl) ?_
                    refine vx_ret ?_
                    exact W.iret hx hb hr (fun t ht hW => ⟨⟨_, _, rfl, rfl, st 3, st 9, st 10, st 11, st 17, st 25, st 26, st 27, st 28, st 29, ai 7, ai 8, ai 14, ai 20, ai 21, ai 22, ai 23, al 19, (by omega), (by omega), (by omega), (by omega), (by omega), (by omega), (by omega), (by omega), (by omega), (by omega), (by omega), (by omega), (by omega), (by omega), hR7, hR23, by rw [ht]; exact hP⟩, hS.F ht⟩) hS.2.2 dX8_block_106
              · skip
                have ic_12 := iv_ne c_12
                refine lv_bipush (v := (-10)) hx hb dX8_block_59 (by decide) ?_
                refine W.widen (k := 2) (n := 12) (Nat.le_of_ble_eq_true rfl) (Nat.le_of_ble_eq_true rfl) ?_
                refine vx_ret ?_
                exact W.iret hx hb hr (fun t ht hW => ⟨⟨_, _, rfl, rfl, st 3, st 9, st 10, st 11, st 17, st 25, st 26, st 27, st 28, st 29, ai 7, ai 8, ai 14, ai 20, ai 21, ai 22, ai 23, al 19, (by omega), (by omega), (by omega), (by omega), (by omega), (by omega), (by omega), (by omega), (by omega), (by omega), (by omega), (by omega), (by omega), (by omega), hR7, hR23, by rw [ht]; exact hP⟩, hS.F ht⟩) hS.2.2 dX8_block_61
            · skip
              have ic_10 := iv_eq c_10
              refine lv_bipush (v := (-6)) hx hb dX8_block_48 (by decide) ?_
              refine W.widen (k := 2) (n := 12) (Nat.le_of_ble_eq_true rfl) (Nat.le_of_ble_eq_true rfl) ?_
              refine vx_ret ?_
              exact W.iret hx hb hr (fun t ht hW => ⟨⟨_, _, rfl, rfl, st 3, st 9, st 10, st 11, st 17, st 25, st 26, st 27, st 28, st 29, ai 7, ai 8, ai 14, ai 20, ai 21, ai 22, ai 23, al 19, (by omega), (by omega), (by omega), (by omega), (by omega), (by omega), (by omega), (by omega), (by omega), (by omega), (by omega), (by omega), (by omega), (by omega), hR7, hR23, by rw [ht]; exact hP⟩, hS.F ht⟩) hS.2.2 dX8_block_50
          · skip
            have ic_7 := iv_ne c_7
            exfalso
            omega
        · skip
          have ib_6 := iv_eq b_6
          rw [b_6]
          refine lv_if_eq (tgt := 21) hx hb dX8_block_15 (by decide) (fun c_36 => ?_) (fun c_36 => ?_)
          · skip
            have ic_36 := iv_eq c_36
            exfalso
            omega
          · skip
            have ic_36 := iv_ne c_36
            refine lv_bipush (v := (-3)) hx hb dX8_block_18 (by decide) ?_
            refine W.widen (k := 2) (n := 12) (Nat.le_of_ble_eq_true rfl) (Nat.le_of_ble_eq_true rfl) ?_
            refine vx_ret ?_
            exact W.iret hx hb hr (fun t ht hW => ⟨⟨_, _, rfl, rfl, st 3, st 9, st 10, st 11, st 17, st 25, st 26, st 27, st 28, st 29, ai 7, ai 8, ai 14, ai 20, ai 21, ai 22, ai 23, al 19, (by omega), (by omega), (by omega), (by omega), (by omega), (by omega), (by omega), (by omega), (by omega), (by omega), (by omega), (by omega), (by omega), (by omega), hR7, hR23, by rw [ht]; exact hP⟩, hS.F ht⟩) hS.2.2 dX8_block_20
  exact main s.heap [] hP hS
